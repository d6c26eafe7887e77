/** The boundary cases of RUNS, ANGLES, TICKS and SKEWS, and of promises 15 to 19, a test for each sentence. */
public final class BoundsOfTimesTest {
    private static final int NONE = -1, UNKNOWN = -1001, OUTSIDE = -1002, STATE = -1003;

    public static void main(String[] args) {
        Sentences s = new Sentences();
        all(s);
        s.end();
    }

    static void all(Sentences s) {
        s.holds("Terms", "ADDRESSES, each 1 more than the one ahead, whose PLACES are each 1 more than that ahead, too",
            BoundsOfTimesTest::whatARunIs);
        s.holds("Terms", "that ahead, too, as many as there are so", BoundsOfTimesTest::asManyAsThereAre);
        s.holds("Terms", "A TURN of the DISK takes 2520 TICKS", BoundsOfTimesTest::aTurn);
        s.holds("Terms", "the rest by SECTORS of (its SECTOR, HEAD SKEW times its HEAD, CYLINDER SKEW times its CYLINDER, together)",
            BoundsOfTimesTest::anglesPastSectors);
        s.holds("Terms", "together), times 2520 by SECTORS", BoundsOfTimesTest::anglesInTicks);
        s.holds("Terms", "time is 0 at first, one is on the TRACK of the first", BoundsOfTimesTest::theFirst);
        s.holds("Terms", "HEAD TICKS go by, if its HEAD is another one than that of the one ahead", BoundsOfTimesTest::headTicks);
        s.holds("Terms", "CYLINDER TICKS times how much both CYLINDERS differ", BoundsOfTimesTest::cylinderTicks);
        s.holds("Terms", "then one waits until time has the rest ANGLE by 2520", BoundsOfTimesTest::waits);
        s.holds("Terms", "then 2520 by SECTORS go by", BoundsOfTimesTest::goesBy);
        s.holds("Promise 15", "What = 0 how many RUNS there are (in all ADDRESSES)", BoundsOfTimesTest::howManyRuns);
        s.holds("Promise 15", "1 how many ADDRESSES the longest one has (0: no ADDRESS)", BoundsOfTimesTest::longestRun);
        s.holds("Promise 15", "2 its first ADDRESS (of like ones the least; NONE)", BoundsOfTimesTest::itsFirstAddress);
        s.holds("Promise 15", "STATE: no DISK; OUTSIDE (ahead of that)", BoundsOfTimesTest::runsRefuse);
        s.holds("Promise 16", "TICKS of n ADDRESSES from one on.", BoundsOfTimesTest::ticksFromOneOn);
        s.holds("Promise 16", "UNKNOWN: address", due -> unknownAddress(due, "ticks"));
        s.holds("Promise 16", "OUTSIDE: n (1 to as many as there are from it on)", due -> outsideN(due, "ticks"));
        s.holds("Promise 17", "n ADDRESSES (as a float) times 2520, divided by their TICKS: the float bits", BoundsOfTimesTest::rates);
        s.holds("Promise 17", "UNKNOWN: address", due -> unknownAddress(due, "rate"));
        s.holds("Promise 17", "OUTSIDE: n.", due -> outsideN(due, "rate"));
        s.holds("Promise 18", "TICKS of each ADDRESS alone, all together (as a double), divided by how many there are: the double bits",
            BoundsOfTimesTest::means);
        s.holds("Promise 18", "STATE: no ADDRESS", BoundsOfTimesTest::meanOfNone);
        s.holds("Promise 19", "The SKEW (0 to 8;", BoundsOfTimesTest::leastAndGreatestSkew);
        s.holds("Promise 19", "the other one as it is", BoundsOfTimesTest::theOtherSkew);
        s.holds("Promise 19", "by which all ADDRESSES, from 0 on, take fewest TICKS", BoundsOfTimesTest::fewestTicks);
        s.holds("Promise 19", "take fewest TICKS, of like ones the least", BoundsOfTimesTest::likeSkews);
        s.holds("Promise 19", "OUTSIDE: what; STATE: no ADDRESS", BoundsOfTimesTest::skewRefuses);
    }

    /** A disk whose ADDRESSES are these PLACES alone: all others were found BAD as it was formatted. */
    private static SlippedPlaces onlyAt(String page, int... places) {
        SlippedPlaces x = Disks.withDisk(page, 0);
        int all = x.count(1);
        for (int p = 0; p < all; p++) {
            boolean kept = false;
            for (int place : places) {
                kept |= p == place;
            }
            x.harm(p, kept ? 0 : 2);
        }
        x.format(true);
        return x;
    }

    private static void whatARunIs(Due due) {
        due.are("over tracks, cylinders and zones", Disks.runs(Disks.withDisk("2;2x4,1x5", 0)), 1, 26, 0);
        due.are("a gap of one place", Disks.runs(onlyAt("1;1x9", 0, 1, 3, 4)), 2, 2, 0);
        due.are("no gap", Disks.runs(onlyAt("1;1x9", 1, 2, 3, 4)), 1, 4, 0);
        due.are("each alone", Disks.runs(onlyAt("1;1x9", 0, 2, 4, 6, 8)), 5, 1, 0);
        SlippedPlaces back = Disks.withDisk("1;1x4,1x4");
        back.harm(7, 2);
        back.harm(4, 2);
        due.is("address 3 goes to place 3", back.write(3), 2);
        due.are("a replaced one can join a run", Disks.runs(back), 2, 4, 0);
        SlippedPlaces down = Disks.withDisk("1;1x6", 2);
        down.harm(1, 2);
        down.write(1);
        down.harm(0, 2);
        down.write(0);
        due.are("places 5, 4: one less is no run", Disks.places(down), 5, 4, 2, 3);
        due.are("runs", Disks.runs(down), 3, 2, 2);
        SlippedPlaces up = Disks.withDisk("1;1x6", 2);
        up.harm(0, 2);
        up.write(0);
        up.harm(1, 2);
        up.write(1);
        due.are("places 4, 5, 2, 3", Disks.runs(up), 2, 2, 0);
    }

    private static void asManyAsThereAre(Due due) {
        due.are("all of the greatest", Disks.runs(Disks.withDisk("3;4x9,4x9,4x9", 0)), 1, 324, 0);
        due.are("the longest is the last, to the last address", Disks.runs(onlyAt("1;1x9", 0, 1, 3, 4, 5)), 2, 3, 2);
        due.are("the longest is in the middle", Disks.runs(onlyAt("1;1x9", 0, 2, 3, 4, 6, 7)), 3, 3, 1);
        due.are("the longest is the first", Disks.runs(onlyAt("1;1x9", 0, 1, 2, 4, 5, 8)), 3, 3, 0);
    }

    private static void aTurn(Due due) {
        for (int sectors = 4; sectors <= 9; sectors++) {
            SlippedPlaces x = Disks.withDisk("1;1x" + sectors, 0);
            due.is("a whole track of " + sectors, x.ticks(0, sectors), 2520);
            due.is("its last one alone", x.ticks(sectors - 1, 1), 2520);
        }
        SlippedPlaces y = Disks.withDisk("1;2x4", 0);
        y.set(4, 0);
        due.is("two turns", y.ticks(0, 8), 5040);
        y.set(4, 1);
        due.is("a turn is missed", y.ticks(0, 8), 7560);
    }

    private static void anglesPastSectors(Due due) {
        SlippedPlaces x = Disks.withDisk("2;2x4");
        x.set(1, 1);
        due.is("sum 3, the last below SECTORS", x.of(6, 6), 1890);
        due.is("sum 4 is SECTORS", x.of(7, 6), 0);
        x.set(2, 1);
        due.is("sum 4 by both skews", x.of(14, 6), 0);
        due.is("sum 5", x.of(15, 6), 630);
        x.set(1, 8);
        x.set(2, 8);
        due.is("sum 16 is four times SECTORS", x.of(12, 6), 0);
        due.is("sum 19", x.of(15, 6), 1890);
        SlippedPlaces y = Disks.withDisk("3;4x9,4x9,4x9");
        y.set(1, 8);
        y.set(2, 8);
        due.is("the greatest sum, 8 + 16 + 88", y.of(323, 6), 112 % 9 * 280);
        due.is("8 + 16 + 80", y.of(323 - 27, 6), 104 % 9 * 280);
        due.is("the first place is not skewed", y.of(0, 6), 0);
        SlippedPlaces z = Disks.withDisk("1;1x9,1x7,1x5");
        z.set(1, 8);
        z.set(2, 3);
        due.is("cylinders count over all zones: 6 + 3", z.of(15, 6), 2 * 360);
        due.is("4 + 6", z.of(20, 6), 0);
        due.is("3 + 6", z.of(19, 6), 4 * 504);
    }

    private static void anglesInTicks(Due due) {
        int[] steps = {630, 504, 420, 360, 315, 280};
        for (int sectors = 4; sectors <= 9; sectors++) {
            SlippedPlaces x = Disks.withDisk("1;1x" + sectors);
            for (int sector = 0; sector < sectors; sector++) {
                due.is("angle of " + sector + " of " + sectors, x.of(sector, 6), sector * steps[sectors - 4]);
            }
        }
    }

    private static void theFirst(Due due) {
        SlippedPlaces x = Disks.withDisk("3;4x9,4x9,4x9", 0);
        x.set(3, 999);
        x.set(4, 999);
        due.is("the first of the disk", x.ticks(0, 1), 280);
        due.is("the first of another track", x.ticks(9, 1), 280);
        due.is("the first of the last track", x.ticks(315, 1), 280);
        due.is("the last of the disk", x.ticks(323, 1), 2520);
        x.set(1, 8);
        due.is("it waits for its angle by skew", x.ticks(9, 1), 8 * 280 + 280);
    }

    private static void headTicks(Due due) {
        SlippedPlaces x = Disks.withDisk("2;1x4", 0);
        x.set(1, 1);
        x.set(3, 630);
        due.is("another head, just in time", x.ticks(3, 2), 2520 + 630 + 630);
        x.set(3, 631);
        due.is("another head, too late", x.ticks(3, 2), 5040 + 630 + 630);
        due.is("the same head", x.ticks(0, 4), 2520);
        SlippedPlaces y = Disks.withDisk("1;2x4", 0);
        y.set(3, 999);
        y.set(4, 0);
        due.is("the same head of another cylinder", y.ticks(3, 2), 2520 + 630);
        SlippedPlaces z = Disks.withDisk("3;1x4");
        z.harm(0, 2);
        z.write(0);
        due.is("address 0 goes to head 2", z.of(z.place(0), 1), 2);
        z.set(3, 630);
        due.is("from head 2 to head 0: once alone, just in time", z.ticks(0, 2), 2520 + 630 + 630);
        z.set(3, 631);
        due.is("from head 2 to head 0, too late", z.ticks(0, 2), 5040 + 630 + 630);
        SlippedPlaces both = onlyAt("2;2x9", 8, 27);
        both.set(2, 2);
        both.set(4, 360);
        due.is("head and cylinder, just in time", both.ticks(0, 2), 2520 + 560 + 280);
        both.set(4, 361);
        due.is("head and cylinder, too late", both.ticks(0, 2), 5040 + 560 + 280);
    }

    private static void cylinderTicks(Due due) {
        SlippedPlaces x = Disks.withDisk("1;4x4,4x4,4x4");
        x.harm(15, 2);
        x.harm(31, 2);
        x.harm(2, 2);
        x.write(2);
        due.is("address 2 goes to the last cylinder", x.of(x.place(2), 0), 11);
        x.set(4, 630);
        due.is("eleven back: 6930 ticks, just in time", x.ticks(2, 2), 2520 + 6930 + 630);
        x.set(4, 631);
        due.is("eleven back: 6941 ticks, too late", x.ticks(2, 2), 2520 + 6930 + 2520 + 630);
        x.set(4, 0);
        due.is("none go by", x.ticks(2, 2), 2520 + 1890 + 630);
        x.set(4, 999);
        due.is("eleven back: 10989 ticks", x.ticks(2, 2), 2520 + 4 * 2520 + 1890 + 630);
        // place 1 ends at 1260; eleven on, place 47 is at 1890
        due.is("eleven on: 10989 ticks", x.ticks(1, 2), 5 * 2520 + 1890 + 630);
        x.set(4, 286);
        due.is("eleven on: 3146 ticks", x.ticks(1, 2), 2520 + 1890 + 630);
        x.set(4, 287);
        due.is("eleven on: 3157 ticks", x.ticks(1, 2), 2 * 2520 + 1890 + 630);
        due.is("the same cylinder: none go by", x.ticks(4, 4), 2520);
    }

    private static void waits(Due due) {
        SlippedPlaces x = Disks.withDisk("2;1x4", 0);
        x.set(3, 0);
        due.is("time 2520 has the rest 0: no wait", x.ticks(0, 8), 5040);
        x.set(3, 1);
        due.is("time 2521 has not: 2519 ticks", x.ticks(0, 8), 7560);
        x.set(1, 1);
        x.set(3, 629);
        due.is("a tick early", x.ticks(3, 2), 3780);
        x.set(3, 630);
        due.is("just in time", x.ticks(3, 2), 3780);
        x.set(3, 631);
        due.is("a tick late", x.ticks(3, 2), 6300);
        due.is("time 0 has the rest 0: no wait", x.ticks(0, 1), 630);
        due.is("from 0 to the last angle", x.ticks(3, 1), 2520);
        SlippedPlaces y = Disks.withDisk("1;1x6", 2);
        y.harm(3, 2);
        y.write(3);
        due.are("places 0, 1, 2, 4", Disks.places(y), 0, 1, 2, 4);
        due.is("a gap is waited for", y.ticks(0, 4), 5 * 420);
        y.harm(0, 2);
        y.write(0);
        due.are("places 5, 1, 2, 4", Disks.places(y), 5, 1, 2, 4);
        due.is("past a turn", y.ticks(0, 4), 2520 + 5 * 420);
        y.harm(2, 2);
        due.is("none is left", y.write(2), 3);
        due.is("what is bad takes as long", y.ticks(0, 4), 2520 + 5 * 420);
    }

    private static void goesBy(Due due) {
        int[] steps = {630, 504, 420, 360, 315, 280};
        for (int sectors = 4; sectors <= 9; sectors++) {
            SlippedPlaces x = Disks.withDisk("1;1x" + sectors, 0);
            for (int n = 1; n <= sectors; n++) {
                due.is(n + " of " + sectors, x.ticks(0, n), n * steps[sectors - 4]);
            }
        }
        SlippedPlaces y = Disks.withDisk("1;1x4,1x9", 0);
        y.set(4, 0);
        due.is("each by its own track's", y.ticks(3, 2), 2520 + 280);
        due.is("both tracks", y.ticks(0, 13), 5040);
    }

    private static void howManyRuns(Due due) {
        SlippedPlaces x = Disks.withDisk("1;1x4", 4);
        due.is("no address", x.runs(0), 0);
        x.set(0, 3);
        x.format(false);
        due.is("one address", x.runs(0), 1);
        x.set(0, 0);
        x.format(false);
        due.is("all in one", x.runs(0), 1);
        due.is("each alone", onlyAt("1;1x9", 0, 2, 4, 6, 8).runs(0), 5);
        due.is("the last one alone", onlyAt("1;1x9", 0, 1, 2, 8).runs(0), 2);
        due.is("the first one alone", onlyAt("1;1x9", 0, 6, 7, 8).runs(0), 2);
    }

    private static void longestRun(Due due) {
        due.is("no address", Disks.withDisk("1;1x4", 4).runs(1), 0);
        due.is("one address", Disks.withDisk("1;1x5", 4).runs(1), 1);
        due.is("each alone", onlyAt("1;1x9", 0, 2, 4).runs(1), 1);
        due.is("all", Disks.withDisk("1;1x4", 0).runs(1), 4);
        due.is("all slipped", onlyAt("1;1x4").runs(1), 0);
        due.is("the last is the longest", onlyAt("1;1x9", 0, 2, 3, 5, 6, 7).runs(1), 3);
    }

    private static void itsFirstAddress(Due due) {
        due.is("no address", Disks.withDisk("1;1x4", 4).runs(2), NONE);
        due.is("all slipped", onlyAt("1;1x4").runs(2), NONE);
        due.is("one address", onlyAt("1;1x4", 3).runs(2), 0);
        due.is("three like ones", onlyAt("1;1x9", 0, 1, 3, 4, 6, 7).runs(2), 0);
        due.is("two like ones behind a shorter one", onlyAt("1;1x9", 0, 2, 3, 5, 6).runs(2), 1);
        due.is("like ones of one", onlyAt("1;1x9", 2, 4, 8).runs(2), 0);
        due.is("an address, not a place", onlyAt("1;1x9", 0, 4, 5, 6).runs(2), 1);
    }

    private static void runsRefuse(Due due) {
        SlippedPlaces none = new SlippedPlaces();
        SlippedPlaces typed = Disks.withPage("1;1x4");
        SlippedPlaces there = Disks.withDisk("1;1x4");
        SlippedPlaces empty = Disks.withDisk("1;1x4", 4);
        for (SlippedPlaces x : new SlippedPlaces[] {none, typed}) {
            due.refuseAll("runs, no disk", x, new int[] {0, 1, 2}, x::runs, STATE);
            due.refuseAll("runs, no disk: outside ahead of that", x, Edges.outside(0, 2), x::runs, OUTSIDE);
        }
        for (SlippedPlaces x : new SlippedPlaces[] {there, empty}) {
            due.refuseAll("runs", x, Edges.outside(0, 2), x::runs, OUTSIDE);
        }
        due.are("a disk without an address is one", Disks.runs(empty), 0, 0, NONE);
    }

    private static void ticksFromOneOn(Due due) {
        SlippedPlaces x = Disks.withDisk("1;1x5,1x4");
        // places 0 to 3, then 5 to 7, whose cylinder is 300 ticks away
        due.is("one, the first", x.ticks(0, 1), 504);
        due.is("one, the last", x.ticks(6, 1), 1890);
        due.is("all", x.ticks(0, 7), 2520 + 1890);
        due.is("all but the first", x.ticks(1, 6), 2520 + 1890);
        due.is("all but the last", x.ticks(0, 6), 2520 + 1260);
        due.is("the last two", x.ticks(5, 2), 1890);
        SlippedPlaces y = Disks.withDisk("3;4x9,4x9,4x9", 0);
        // 36 tracks; one more turn at each of the 35 changes
        due.is("all of the greatest", y.ticks(0, 324), (36 + 35) * 2520);
        y.set(3, 0);
        y.set(4, 0);
        due.is("in as many turns as tracks", y.ticks(0, 324), 36 * 2520);
    }

    private static long asked(SlippedPlaces x, String call, int address, int n) {
        return call.equals("ticks") ? x.ticks(address, n) : x.rate(address, n);
    }

    private static void unknownAddress(Due due, String call) {
        SlippedPlaces x = Disks.withDisk("1;1x5");
        SlippedPlaces none = Disks.withDisk("1;1x4", 4);
        for (int address : Edges.outside(0, 3)) {
            for (int n : new int[] {1, 4}) {
                due.refused(call + "(" + address + ", " + n + ")", x, () -> asked(x, call, address, n), UNKNOWN);
            }
            for (int n : Edges.outside(1, 4)) {
                due.refused(call + "(" + address + ", " + n + "): unknown ahead of outside", x, () -> asked(x, call, address, n), UNKNOWN);
            }
        }
        for (int n : new int[] {Integer.MIN_VALUE, 0, 1, Integer.MAX_VALUE}) {
            due.refused(call + "(0, " + n + ") without an address", none, () -> asked(none, call, 0, n), UNKNOWN);
        }
        due.holds(call + "(3, 1)", asked(x, call, 3, 1) > 0);
        SlippedPlaces greatest = Disks.withDisk("3;4x9,4x9,4x9", 0);
        due.holds(call + "(323, 1)", asked(greatest, call, 323, 1) > 0);
        due.refused(call + "(324, 1)", greatest, () -> asked(greatest, call, 324, 1), UNKNOWN);
    }

    private static void outsideN(Due due, String call) {
        SlippedPlaces x = Disks.withDisk("1;1x5");
        for (int a = 0; a < 4; a++) {
            int address = a;
            due.holds(call + " of one from " + a, asked(x, call, a, 1) > 0);
            due.holds(call + " of all from " + a, asked(x, call, a, 4 - a) > 0);
            for (int n : Edges.outside(1, 4 - a)) {
                due.refused(call + "(" + a + ", " + n + ")", x, () -> asked(x, call, address, n), OUTSIDE);
            }
            due.refused(call + "(" + a + ", -1)", x, () -> asked(x, call, address, -1), OUTSIDE);
        }
        SlippedPlaces greatest = Disks.withDisk("3;4x9,4x9,4x9", 0);
        due.holds(call + "(0, 324)", asked(greatest, call, 0, 324) > 0);
        due.holds(call + "(1, 323)", asked(greatest, call, 1, 323) > 0);
        due.refused(call + "(0, 325)", greatest, () -> asked(greatest, call, 0, 325), OUTSIDE);
        due.refused(call + "(1, 324)", greatest, () -> asked(greatest, call, 1, 324), OUTSIDE);
        due.refused(call + "(323, 2)", greatest, () -> asked(greatest, call, 323, 2), OUTSIDE);
    }

    private static void rates(Due due) {
        due.is("the greatest, 9", Disks.withDisk("1;1x9").rate(0, 1), 0x41100000);
        due.is("8, a power of two", Disks.withDisk("1;1x8", 0).rate(0, 8), 0x41000000);
        due.is("7", Disks.withDisk("1;1x7", 0).rate(0, 7), 0x40e00000);
        due.is("just 1", Disks.withDisk("1;1x4", 0).rate(3, 1), 0x3f800000);
        due.is("4/3, rounded", Disks.withDisk("1;1x4", 0).rate(2, 1), 0x3faaaaab);
        due.is("9/8", Disks.withDisk("1;1x9", 0).rate(7, 1), 0x3f900000);
        due.is("9/7, rounded", Disks.withDisk("1;1x9", 0).rate(6, 1), Float.floatToIntBits(9f / 7f));
        SlippedPlaces far = Disks.withDisk("1;4x4,4x4,4x4");
        far.harm(15, 2);
        far.harm(31, 2);
        far.harm(2, 2);
        far.write(2);
        far.set(4, 630);
        due.is("1/2", far.rate(2, 2), 0x3f000000);
        far.set(4, 631);
        due.is("2/5, rounded", far.rate(2, 2), Float.floatToIntBits(0.4f));
        far.set(4, 999);
        due.is("below 1/2, rounded", far.rate(2, 2), Float.floatToIntBits(5040f / 15120f));
        due.is("that is 1/3", far.rate(2, 2), 0x3eaaaaab);
        SlippedPlaces all = Disks.withDisk("3;4x9,4x9,4x9", 0);
        due.is("all of the greatest", all.rate(0, 324), Float.floatToIntBits(324f * 2520f / (71f * 2520f)));
    }

    private static void means(Due due) {
        due.is("of one", Disks.withDisk("1;1x5", 4).mean(), Double.doubleToLongBits(504.0));
        due.is("of one, the least there is", onlyAt("1;1x9", 0).mean(), Double.doubleToLongBits(280.0));
        due.is("of one, the greatest there is", onlyAt("1;1x9", 8).mean(), Double.doubleToLongBits(2520.0));
        due.is("of two", onlyAt("1;1x9", 0, 8).mean(), Double.doubleToLongBits(1400.0));
        due.is("of three, rounded", onlyAt("1;1x4,1x9", 0, 4, 5).mean(), Double.doubleToLongBits((630.0 + 280 + 560) / 3));
        due.is("of seven, rounded", onlyAt("1;1x8", 0, 1, 2, 3, 4, 5, 7).mean(), Double.doubleToLongBits(315.0 * 29 / 7));
        SlippedPlaces all = Disks.withDisk("3;4x9,4x9,4x9", 0);
        due.is("of all of the greatest", all.mean(), Double.doubleToLongBits(1400.0));
        all.set(3, 999);
        all.set(4, 999);
        due.is("each alone: no ticks between", all.mean(), Double.doubleToLongBits(1400.0));
        SlippedPlaces skewed = onlyAt("2;2x9", 0, 9, 27);
        skewed.set(1, 1);
        skewed.set(2, 8);
        due.is("by both skews, past SECTORS", skewed.mean(), Double.doubleToLongBits((280.0 + 560 + 280) / 3));
        SlippedPlaces replaced = Disks.withDisk("1;1x4");
        replaced.harm(0, 2);
        replaced.write(0);
        due.is("by what was taken", replaced.mean(), Double.doubleToLongBits((2520.0 + 1260 + 1890) / 3));
    }

    private static void meanOfNone(Due due) {
        SlippedPlaces none = new SlippedPlaces();
        due.refused("mean(), no disk", none, none::mean, STATE);
        SlippedPlaces free = Disks.withDisk("1;1x4", 4);
        due.refused("mean(), all free", free, free::mean, STATE);
        SlippedPlaces slipped = onlyAt("1;1x4");
        due.refused("mean(), all slipped", slipped, slipped::mean, STATE);
        free.set(0, 3);
        free.format(false);
        due.is("mean(), one address", free.mean(), Double.doubleToLongBits(630.0));
    }

    private static void leastAndGreatestSkew(Due due) {
        SlippedPlaces x = onlyAt("2;1x9", 7, 9);
        // place 7 ends at 2240, where place 9 begins by a skew of 8
        x.set(3, 0);
        due.is("skew(1), the greatest", x.skew(1), 8);
        x.set(3, 1);
        due.is("skew(1), a tick later: the least", x.skew(1), 0);
        SlippedPlaces y = onlyAt("1;2x9", 7, 9);
        y.set(4, 0);
        due.is("skew(2), the greatest", y.skew(2), 8);
        y.set(4, 1);
        due.is("skew(2), a tick later: the least", y.skew(2), 0);
        SlippedPlaces z = onlyAt("1;2x9", 6, 9);
        z.set(4, 0);
        due.is("skew(2), one less", z.skew(2), 7);
    }

    private static void theOtherSkew(Due due) {
        // place 8 ends at 2520, place 27 is 500 ticks away: both skews together, by 9, have to be 2
        int[] other = {0, 1, 2, 3, 7, 8};
        int[] best = {2, 1, 0, 8, 4, 3};
        SlippedPlaces x = onlyAt("2;2x9", 8, 27);
        for (int i = 0; i < other.length; i++) {
            x.set(1, 5);
            x.set(2, other[i]);
            due.is("skew(1), the other one " + other[i], x.skew(1), best[i]);
            x.set(2, 5);
            x.set(1, other[i]);
            due.is("skew(2), the other one " + other[i], x.skew(2), best[i]);
            due.is("head skew stays", x.count(9), other[i]);
            due.is("cylinder skew stays", x.count(10), 5);
        }
        long before = x.digest();
        x.skew(1);
        x.skew(2);
        due.is("digest() behind skew()", x.digest(), before);
    }

    private static void fewestTicks(Due due) {
        SlippedPlaces x = Disks.withDisk("2;1x9", 0);
        int[] ticks = {0, 1, 280, 281, 560, 561, 840, 841, 999};
        int[] best = {0, 1, 1, 2, 2, 3, 3, 4, 4};
        for (int i = 0; i < ticks.length; i++) {
            x.set(3, ticks[i]);
            due.is("skew(1) with head ticks " + ticks[i], x.skew(1), best[i]);
        }
        SlippedPlaces y = Disks.withDisk("1;2x9", 0);
        for (int i = 0; i < ticks.length; i++) {
            y.set(4, ticks[i]);
            due.is("skew(2) with cylinder ticks " + ticks[i], y.skew(2), best[i]);
        }
        for (int what = 1; what <= 2; what++) {
            SlippedPlaces z = Disks.withDisk("3;2x8,2x5");
            z.set(3, 400);
            int found = z.skew(what);
            z.set(what, found);
            int least = z.ticks(0, z.count(2));
            for (int skew = 0; skew <= 8; skew++) {
                z.set(what, skew);
                int taken = z.ticks(0, z.count(2));
                due.holds("skew(" + what + ") against " + skew, skew < found ? taken > least : taken >= least);
            }
        }
    }

    private static void likeSkews(Due due) {
        SlippedPlaces x = Disks.withDisk("2;1x4", 0);
        x.set(3, 0);
        due.is("0, 4 and 8 are alike", x.skew(1), 0);
        x.set(3, 200);
        due.is("1 and 5 are alike", x.skew(1), 1);
        x.set(3, 999);
        due.is("2 and 6 are alike", x.skew(1), 2);
        x.set(1, 8);
        due.is("whatever it is", x.skew(1), 2);
        due.is("all are alike: one cylinder", x.skew(2), 0);
        SlippedPlaces one = Disks.withDisk("3;1x9", 4);
        for (int p = 1; p < 23; p++) {
            one.harm(p, 2);
        }
        one.format(true);
        due.is("one address", one.count(2), 1);
        due.is("skew(1) of one address", one.skew(1), 0);
        due.is("skew(2) of one address", one.skew(2), 0);
    }

    private static void skewRefuses(Due due) {
        SlippedPlaces none = new SlippedPlaces();
        SlippedPlaces there = Disks.withDisk("1;1x4");
        SlippedPlaces free = Disks.withDisk("1;1x4", 4);
        SlippedPlaces slipped = onlyAt("1;1x4");
        for (SlippedPlaces x : new SlippedPlaces[] {none, there, free, slipped}) {
            due.refuseAll("skew: outside ahead of state", x, Edges.outside(1, 2), x::skew, OUTSIDE);
        }
        for (SlippedPlaces x : new SlippedPlaces[] {none, free, slipped}) {
            due.refuseAll("skew, no address", x, new int[] {1, 2}, x::skew, STATE);
        }
        due.is("skew(1)", there.skew(1), 0);
        due.is("skew(2)", there.skew(2), 0);
    }
}
