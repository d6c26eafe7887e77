/** Holds each answer against the one that is due, tells those that are not, and ends a test. */
final class Due {
    private int asked;
    private int wrong;

    void is(String call, long got, long want) {
        asked++;
        if (got != want) {
            wrong++;
            System.out.println(call + " answered " + got + ", due is " + want);
        }
    }

    void holds(String claim, boolean true_) {
        asked++;
        if (!true_) {
            wrong++;
            System.out.println("does not hold: " + claim);
        }
    }

    /** Several answers of one call, for 0, 1, 2 .. */
    void are(String call, long[] got, long... want) {
        is(call + ": how many", got.length, want.length);
        for (int i = 0; i < Math.min(got.length, want.length); i++) {
            is(call + " for " + i, got[i], want[i]);
        }
    }

    boolean anyWrong() {
        return wrong > 0;
    }

    void end() {
        System.out.println(asked + " answers, " + wrong + " not as due");
        System.exit(wrong == 0 && asked > 0 ? 0 : 1);
    }
}
