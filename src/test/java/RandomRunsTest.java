import java.util.Random;

/** Many runs of up to 512 calls, ordinary and wrong ones, each answer held against Model. The seed is fixed. */
public final class RandomRunsTest {
    private static final int RUNS = 1500, CALLS = 512;
    private static final int[] EDGES = {Integer.MIN_VALUE, -1004, -1001, -2, -1, 0, 1, 2, 3, 4, 5, 8, 9, 14, 15, 31, 32, 126,
        127, 999, 1000, Integer.MAX_VALUE - 1, Integer.MAX_VALUE};

    private final Due due;
    private final Random random;
    private final SlippedPlaces x = new SlippedPlaces();
    private final Model m = new Model();
    private final int edgeIn;
    private int calls;

    private RandomRunsTest(Due due, long seed) {
        this.due = due;
        random = new Random(seed);
        edgeIn = 5 + random.nextInt(60);
    }

    public static void main(String[] args) {
        Due due = new Due();
        for (int run = 0; run < RUNS && !due.anyWrong(); run++) {
            new RandomRunsTest(due, 7919L * run).go(run);
        }
        due.end();
    }

    private void go(int run) {
        boolean smallDisks = random.nextBoolean();
        while (calls < CALLS - 20) {
            step(run, smallDisks);
        }
        while (calls < CALLS) {
            is(run, "digest()", x.digest(), m.digest());
        }
    }

    private void is(int run, String call, long got, long want) {
        calls++;
        due.is("run " + run + ", call " + calls + ": " + call, got, want);
    }

    /** A number that is mostly below n, sometimes an edge or just beyond. */
    private int upTo(int n) {
        if (random.nextInt(edgeIn) == 0) {
            return EDGES[random.nextInt(EDGES.length)];
        }
        return random.nextInt(n + 2) - (random.nextInt(20) == 0 ? 1 : 0);
    }

    private void type(int run, String text) {
        for (char c : text.toCharArray()) {
            is(run, "letter(" + (int) c + ")", x.letter(c), m.letter(c));
        }
    }

    private String zone(boolean small) {
        return (1 + random.nextInt(small ? 2 : 4)) + "x" + (4 + random.nextInt(small ? 2 : 6));
    }

    private String diskText(boolean small) {
        StringBuilder text = new StringBuilder();
        text.append(1 + random.nextInt(small ? 2 : 3)).append(';').append(zone(small));
        for (int more = random.nextInt(3); more > 0; more--) {
            text.append(',').append(zone(small));
        }
        if (random.nextInt(6) == 0) {
            text.setCharAt(random.nextInt(text.length()), "0123456789;,x X:-".charAt(random.nextInt(17)));
        }
        if (random.nextInt(10) == 0) {
            text.setLength(random.nextInt(text.length()));
        }
        return text.toString();
    }

    private void step(int run, boolean small) {
        int places = m.count(1);
        int addresses = m.count(2);
        if (places == 0 ? random.nextInt(3) == 0 : random.nextInt(150) == 0) {
            newDisk(run, small);
            return;
        }
        switch (random.nextInt(20)) {
            case 0: case 1: case 2: case 3: harm(run, upTo(places), random.nextInt(4) == 0 ? 0 : upTo(2)); break;
            case 4: case 5: case 6: access(run, upTo(addresses)); break;
            case 7: of(run, upTo(places), upTo(8)); break;
            case 8: as(run, upTo(places), upTo(2)); break;
            case 9: is(run, "place", x.place(addresses), m.place(addresses)); break;
            case 10: setting(run); break;
            case 11: pending(run, upTo(m.count(7))); break;
            case 12: runs(run, upTo(2)); break;
            case 13: times(run, upTo(addresses)); break;
            case 14: skew(run, upTo(2)); break;
            case 15: count(run, upTo(14)); break;
            case 16: is(run, "mean()", x.mean(), m.mean()); break;
            case 17: rare(run); break;
            case 18: place(run, upTo(addresses)); break;
            default: is(run, "digest()", x.digest(), m.digest()); break;
        }
    }

    private void newDisk(int run, boolean small) {
        if (random.nextInt(8) != 0) {
            is(run, "blank()", x.blank(), m.blank());
        }
        type(run, diskText(small));
        is(run, "fault()", x.fault(), m.fault());
        is(run, "disk()", x.disk(), m.disk());
    }

    private void rare(int run) {
        if (random.nextInt(4) == 0) {
            boolean certified = random.nextBoolean();
            is(run, "format(" + certified + ")", x.format(certified), m.format(certified));
            return;
        }
        int code = random.nextInt(3) == 0 ? upTo(130) : "1;1x4,3;4".charAt(Math.min(m.count(0), 8));
        is(run, "letter(" + code + ")", x.letter(code), m.letter(code));
        is(run, "fault()", x.fault(), m.fault());
        if (random.nextInt(5) == 0) {
            is(run, "disk()", x.disk(), m.disk());
        }
    }

    private void harm(int run, int place, int how) {
        is(run, "harm(" + place + ", " + how + ")", x.harm(place, how), m.harm(place, how));
    }

    private void access(int run, int address) {
        if (random.nextBoolean()) {
            is(run, "read(" + address + ")", x.read(address), m.read(address));
        } else {
            // a write that has something to do: its place is harmed first
            int place = m.place(address);
            harm(run, place, 1 + random.nextInt(2));
        }
        is(run, "write(" + address + ")", x.write(address), m.write(address));
    }

    private void of(int run, int place, int what) {
        is(run, "of(" + place + ", " + what + ")", x.of(place, what), m.of(place, what));
    }

    private void as(int run, int place, int kind) {
        is(run, "as(" + place + ", " + kind + ")", x.as(place, kind), m.as(place, kind));
    }

    private void place(int run, int address) {
        is(run, "place(" + address + ")", x.place(address), m.place(address));
        is(run, "read(" + address + ")", x.read(address), m.read(address));
    }

    private void setting(int run) {
        int what = upTo(4);
        int v = what == 3 || what == 4 ? upTo(999) : upTo(8);
        is(run, "set(" + what + ", " + v + ")", x.set(what, v), m.set(what, v));
    }

    private void pending(int run, int place) {
        is(run, "pending(" + place + ")", x.pending(place), m.pending(place));
    }

    private void runs(int run, int what) {
        is(run, "runs(" + what + ")", x.runs(what), m.runs(what));
    }

    private void times(int run, int address) {
        int n = upTo(Math.max(0, m.count(2) - Math.max(0, Math.min(address, m.count(2)))));
        is(run, "ticks(" + address + ", " + n + ")", x.ticks(address, n), m.ticks(address, n));
        is(run, "rate(" + address + ", " + n + ")", x.rate(address, n), m.rate(address, n));
    }

    private void skew(int run, int what) {
        is(run, "skew(" + what + ")", x.skew(what), m.skew(what));
    }

    private void count(int run, int what) {
        is(run, "count(" + what + ")", x.count(what), m.count(what));
    }
}
