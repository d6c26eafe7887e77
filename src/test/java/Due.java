import java.util.function.IntUnaryOperator;
import java.util.function.LongSupplier;

/** Holds each answer against the one that is due, tells those that are not, and ends a test. */
final class Due {
    private int asked;
    private int wrong;

    void is(String call, long got, long want) {
        asked++;
        if (got != want) {
            wrong++;
            System.out.println(call + " answered " + got + ", due is " + want);
        }
    }

    void holds(String claim, boolean true_) {
        asked++;
        if (!true_) {
            wrong++;
            System.out.println("does not hold: " + claim);
        }
    }

    /** Several answers of one call, for 0, 1, 2 .. */
    void are(String call, long[] got, long... want) {
        is(call + ": how many", got.length, want.length);
        for (int i = 0; i < Math.min(got.length, want.length); i++) {
            is(call + " for " + i, got[i], want[i]);
        }
    }

    /** A call that is refused, by digest() ahead of it and behind it: it changes nothing. */
    void refused(String call, SlippedPlaces x, LongSupplier answer, long want) {
        long before = x.digest();
        is(call, answer.getAsLong(), want);
        is("digest() behind the refused " + call, x.digest(), before);
    }

    /** A call of one number that is refused for each of these. */
    void refuseAll(String call, SlippedPlaces x, int[] numbers, IntUnaryOperator answer, long want) {
        for (int number : numbers) {
            refused(call + "(" + number + ")", x, () -> answer.applyAsInt(number), want);
        }
    }

    boolean anyWrong() {
        return wrong > 0;
    }

    int howManyAsked() {
        return asked;
    }

    void end() {
        System.out.println(asked + " answers, " + wrong + " not as due");
        System.exit(wrong == 0 && asked > 0 ? 0 : 1);
    }
}
