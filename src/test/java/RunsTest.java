/** Promises 15 to 21: runs, ticks, rate, mean, skew, count, digest. */
public final class RunsTest {
    private static final Due due = new Due();
    private static final int NONE = -1, UNKNOWN = -1001, OUTSIDE = -1002, STATE = -1003;

    public static void main(String[] args) {
        runsOfAddresses();
        runsRefuse();
        ticksOfHeads();
        ticksOfCylinders();
        ticksOfZonesAndReplacedPlaces();
        ticksAndRateRefuse();
        ratesAreFloats();
        meansAreDoubles();
        skewThatTakesLeast();
        countsOfAll();
        digestOfNoDisk();
        digestOfADisk();
        digestOfOneAddressAndOfBothSkews();
        due.end();
    }

    private static void runsOfAddresses() {
        SlippedPlaces x = Disks.withDisk("1;3x4", 1);
        due.are("runs", Disks.runs(x), 1, 11, 0);
        x.harm(5, 2);
        x.write(5);
        due.are("runs with one replaced", Disks.runs(x), 3, 5, 0);
        x.harm(2, 2);
        x.format(true);
        // places 0, 1, 3, 4, 6, 7, 8, 9, 10
        due.are("runs with two slipped", Disks.runs(x), 3, 5, 4);
        SlippedPlaces y = Disks.withDisk("1;1x4,1x4", 1);
        due.are("of like ones the least", Disks.runs(y), 2, 3, 0);
        SlippedPlaces z = Disks.withDisk("1;1x4,1x4", 0);
        due.are("zones do not part runs", Disks.runs(z), 1, 8, 0);
        SlippedPlaces w = Disks.withDisk("1;1x4,1x4", 4);
        due.are("no address", Disks.runs(w), 0, 0, NONE);
        SlippedPlaces v = Disks.withDisk("1;1x4", 1);
        v.harm(2, 2);
        v.write(2);
        due.are("a place replaced by one not next to it", Disks.runs(v), 2, 2, 0);
    }

    private static void runsRefuse() {
        SlippedPlaces x = new SlippedPlaces();
        due.is("runs(3) without a disk: the first refusal", x.runs(3), OUTSIDE);
        due.is("runs(-1) without a disk", x.runs(-1), OUTSIDE);
        for (int what = 0; what <= 2; what++) {
            due.is("runs(" + what + ") without a disk", x.runs(what), STATE);
        }
        SlippedPlaces y = Disks.withDisk("1;1x4");
        due.is("runs(3)", y.runs(3), OUTSIDE);
        due.is("runs(-1)", y.runs(-1), OUTSIDE);
    }

    private static void ticksOfHeads() {
        SlippedPlaces x = Disks.withDisk("2;1x4", 0);
        due.is("a track", x.ticks(0, 4), 2520);
        due.is("the first angle is waited for", x.ticks(3, 1), 2520);
        due.is("no head ticks for the first", x.ticks(4, 1), 630);
        due.is("two tracks, head ticks 200", x.ticks(0, 8), 7560);
        x.set(3, 0);
        due.is("head ticks 0", x.ticks(0, 8), 5040);
        x.set(1, 1);
        due.is("head skew 1", x.ticks(0, 8), 5670);
        x.set(3, 630);
        due.is("just in time", x.ticks(0, 8), 5670);
        x.set(3, 631);
        due.is("a tick too late", x.ticks(0, 8), 8190);
        x.set(1, 5);
        due.is("head skew 5 goes round", x.ticks(0, 8), 8190);
    }

    private static void ticksOfCylinders() {
        SlippedPlaces x = Disks.withDisk("2;2x4", 0);
        due.is("head and cylinder at once", x.ticks(7, 2), 5670);
        x.set(2, 1);
        due.is("500 ticks fit a skew of 1", x.ticks(7, 2), 3780);
        x.set(3, 400);
        due.is("700 do not", x.ticks(7, 2), 6300);
        SlippedPlaces y = Disks.withDisk("1;3x4", 1);
        // place 0, cylinder 0, is replaced by 11, cylinder 2
        y.harm(0, 2);
        y.write(0);
        y.set(4, 315);
        due.is("two cylinders back, just in time", y.ticks(0, 2), 2520 + 630 + 630);
        y.set(4, 316);
        due.is("two cylinders back, too late", y.ticks(0, 2), 2520 + 3150 + 630);
        due.is("two cylinders on", y.of(11, 7), 0);
    }

    private static void ticksOfZonesAndReplacedPlaces() {
        SlippedPlaces x = Disks.withDisk("1;1x4,1x9", 0);
        x.set(4, 0);
        due.is("both zones", x.ticks(0, 13), 5040);
        due.is("the last and the first", x.ticks(3, 2), 2520 + 280);
        x.set(4, 1);
        due.is("a turn more", x.ticks(0, 13), 7560);
        SlippedPlaces y = Disks.withDisk("1;1x4", 1);
        y.harm(1, 2);
        y.write(1);
        due.is("places 0, 3, 2", y.ticks(0, 3), 2520 + 1890);
    }

    private static void ticksAndRateRefuse() {
        SlippedPlaces x = Disks.withDisk("1;1x5");
        long before = x.digest();
        int[][] calls = {{4, 1, UNKNOWN}, {-1, 1, UNKNOWN}, {4, 0, UNKNOWN}, {Integer.MAX_VALUE, 1, UNKNOWN},
            {Integer.MIN_VALUE, 0, UNKNOWN}, {0, 0, OUTSIDE}, {0, -1, OUTSIDE}, {0, 5, OUTSIDE}, {3, 2, OUTSIDE},
            {1, Integer.MAX_VALUE, OUTSIDE}, {1, Integer.MIN_VALUE, OUTSIDE}};
        for (int[] call : calls) {
            due.is("ticks(" + call[0] + ", " + call[1] + ")", x.ticks(call[0], call[1]), call[2]);
            due.is("rate(" + call[0] + ", " + call[1] + ")", x.rate(call[0], call[1]), call[2]);
        }
        due.is("ticks(0, 4)", x.ticks(0, 4), 4 * 504);
        due.is("ticks(3, 1)", x.ticks(3, 1), 4 * 504);
        due.is("digest after refusals", x.digest(), before);
    }

    private static void ratesAreFloats() {
        SlippedPlaces x = Disks.withDisk("2;1x4", 0);
        due.is("rate of 4.0", x.rate(0, 4), 0x40800000);
        due.is("rate of 1.0", x.rate(3, 1), 0x3f800000);
        due.is("rate of 8/3", x.rate(0, 8), Float.floatToIntBits(8 * 2520f / 7560));
        due.is("rate of 2/3", x.rate(2, 1), Float.floatToIntBits(1 * 2520f / 1890));
        due.is("rate below 1", x.rate(3, 2), Float.floatToIntBits(2 * 2520f / (5040 + 630)));
        SlippedPlaces y = Disks.withDisk("3;4x9,4x9,4x9", 0);
        y.set(3, 999);
        y.set(4, 999);
        due.is("a long one", y.rate(0, 324), Float.floatToIntBits(324 * 2520f / y.ticks(0, 324)));
        for (int n = 1; n <= 324; n++) {
            SlippedPlaces z = Disks.withDisk("3;4x9,4x9,4x9", 0);
            due.is("rate of " + n, z.rate(324 - n, n), Float.floatToIntBits((float) n * 2520f / z.ticks(324 - n, n)));
        }
    }

    private static void meansAreDoubles() {
        due.is("mean of 630 to 2520", Disks.withDisk("1;1x4", 0).mean(), Double.doubleToLongBits(1575.0));
        due.is("mean of 630 to 1890", Disks.withDisk("1;1x4", 1).mean(), Double.doubleToLongBits(1260.0));
        due.is("mean of 13", Disks.withDisk("1;1x9,1x4", 0).mean(), Double.doubleToLongBits(18900.0 / 13));
        SlippedPlaces x = Disks.withDisk("2;1x4", 0);
        x.set(1, 3);
        x.harm(0, 2);
        x.format(true);
        due.is("mean of 7", x.mean(), Double.doubleToLongBits((1260.0 + 1890 + 2520 + 2520 + 630 + 1260 + 1890) / 7));
        SlippedPlaces y = Disks.withDisk("2;2x4", 0);
        y.set(1, 1);
        y.set(2, 2);
        // the tracks' first angles are 0, 1, 2, 3 sectors on; each track has all four
        due.is("a mean by both skews", y.mean(), Double.doubleToLongBits(1575.0));
        y.set(0, 4);
        y.format(false);
        due.is("a mean without the last track", y.mean(), Double.doubleToLongBits(1575.0));
        y.set(0, 3);
        y.format(false);
        due.is("a mean with the last track's first, at 1890", y.mean(), Double.doubleToLongBits((1575.0 * 12 + 2520) / 13));
        due.is("mean of one alone", Disks.withDisk("1;1x5", 4).mean(), Double.doubleToLongBits(504.0));
        due.is("mean without an address", Disks.withDisk("1;1x4", 4).mean(), STATE);
    }

    private static void skewThatTakesLeast() {
        SlippedPlaces x = Disks.withDisk("2;1x4", 0);
        due.is("skew(1), head ticks 200", x.skew(1), 1);
        due.is("skew(2), of like ones the least", x.skew(2), 0);
        x.set(3, 0);
        due.is("skew(1), head ticks 0", x.skew(1), 0);
        x.set(3, 700);
        due.is("skew(1), head ticks 700", x.skew(1), 2);
        x.set(1, 8);
        due.is("skew(1) whatever it is", x.skew(1), 2);
        due.is("the skew stays as it is", x.count(9), 8);
        SlippedPlaces y = Disks.withDisk("1;2x9", 0);
        y.set(4, 999);
        due.is("skew(2), cylinder ticks 999", y.skew(2), 4);
        due.is("skew(1) with one head", y.skew(1), 0);
        SlippedPlaces z = Disks.withDisk("2;2x9", 0);
        // the next head is 200 ticks away, a skew of 1; the next cylinder's first head 500, a skew of 2 with that of heads gone
        due.is("skew(1), cylinder skew 0", z.skew(1), 1);
        z.set(1, 1);
        due.is("skew(2), head skew 1", z.skew(2), 3);
        z.set(1, 0);
        due.is("skew(2), head skew 0", z.skew(2), 2);
        due.is("skew(1) of one address", Disks.withDisk("1;1x5", 4).skew(1), 0);
        highestSkew();
        long before = z.digest();
        int[] wrong = {0, 3, -1, Integer.MIN_VALUE, Integer.MAX_VALUE};
        for (int what : wrong) {
            due.is("skew(" + what + ")", z.skew(what), OUTSIDE);
            due.is("skew(" + what + ") without a disk: the first refusal", new SlippedPlaces().skew(what), OUTSIDE);
        }
        due.is("digest after refusals", z.digest(), before);
        due.is("skew(1) without a disk", new SlippedPlaces().skew(1), STATE);
        due.is("skew(2) without an address", Disks.withDisk("1;1x4", 4).skew(2), STATE);
    }

    private static void highestSkew() {
        SlippedPlaces x = Disks.withDisk("1;1x4,1x9");
        // three sectors and 86 ticks end at 1976, past the seventh of nine and ahead of the eighth
        x.set(4, 86);
        due.is("skew(2) can be 8", x.skew(2), 8);
        x.set(2, 8);
        due.is("by which it takes", x.ticks(0, 11), 2240 + 8 * 280);
        x.set(4, 70);
        due.is("skew(2), just in time for 7", x.skew(2), 7);
    }

    private static void countsOfAll() {
        SlippedPlaces x = Disks.withDisk("2;1x5,1x6", 2);
        x.set(0, 3);
        x.set(1, 4);
        x.set(2, 5);
        x.set(3, 6);
        x.set(4, 7);
        x.harm(0, 1);
        x.harm(1, 2);
        x.format(true);
        x.harm(2, 2);
        x.harm(3, 2);
        x.harm(4, 2);
        x.harm(5, 1);
        x.write(0);
        x.write(1);
        x.read(2);
        x.read(3);
        Disks.type(x, "hello");
        due.are("count", Disks.counts(x), 5, 22, 14, 2, 2, 4, 2, 2, 3, 4, 5, 6, 7, 1, 1);
        int[] wrong = {15, -1, Integer.MIN_VALUE, Integer.MAX_VALUE};
        for (int what : wrong) {
            due.is("count(" + what + ")", x.count(what), OUTSIDE);
        }
    }

    private static long fold(long... numbers) {
        long h = 1733;
        for (long number : numbers) {
            h = 31 * h + number;
        }
        return h;
    }

    private static void digestOfNoDisk() {
        due.is("digest of a new object", new SlippedPlaces().digest(),
            fold(0, 0, 0, 0, 0, 0, 0, 0, 1, 0, 0, 200, 300, 0, 0));
        due.is("digest of a page", Disks.withPage("1 ~").digest(),
            fold('1', ' ', '~', 3, 0, 0, 0, 0, 0, 0, 0, 1, 0, 0, 200, 300, 0, 0));
    }

    private static void digestOfADisk() {
        SlippedPlaces x = Disks.withDisk("1;1x5");
        x.harm(1, 2);
        x.write(1);
        x.harm(2, 1);
        x.read(2);
        x.harm(3, 2);
        x.read(3);
        Disks.type(x, "A");
        long before = fold(0, 0, 0, 2, 4, -1, 1, 0, 2, 2, 0, 3, 0, 2, 1,
            0, 4, 2, 3,
            2, 3,
            3, 2, 2,
            5040 - 504, Float.floatToIntBits(4 * 2520f / 4536), Double.doubleToLongBits(504.0 * 13 / 4), 0, 0,
            'A',
            1, 5, 4, 0, 1, 0, 1, 2, 1, 0, 0, 200, 300, 0, 1);
        due.is("digest of a disk", x.digest(), before);
        due.is("digest changes nothing", x.digest(), before);
        x.harm(0, 1);
        x.read(0);
        due.is("digest with address 0 pending", x.digest(), fold(1, 0, 0, 2, 4, -1, 1, 0, 2, 2, 0, 3, 0, 2, 1,
            0, 4, 2, 3,
            0, 2, 3,
            3, 2, 2,
            5040 - 504, Float.floatToIntBits(4 * 2520f / 4536), Double.doubleToLongBits(504.0 * 13 / 4), 0, 0,
            'A',
            1, 5, 4, 0, 1, 0, 1, 3, 1, 0, 0, 200, 300, 0, 1));
        x.harm(0, 0);
        x.set(0, 4);
        x.format(true);
        due.is("digest of a disk without an address", x.digest(),
            fold(0, 1, -1, 2, 3, -1, 1, 3, -1, 2, 3, -1, 0, 1, -1,
                0, 0, -1,
                'A',
                1, 5, 0, 3, 0, 2, 0, 0, 4, 0, 0, 200, 300, 1, 1));
    }

    private static void digestOfOneAddressAndOfBothSkews() {
        SlippedPlaces x = Disks.withDisk("1;1x5", 4);
        due.is("digest of one address", x.digest(), fold(0, 0, 0, 0, 1, -1, 0, 1, -1, 0, 1, -1, 0, 1, -1,
            0,
            1, 1, 0,
            504, Float.floatToIntBits(5f), Double.doubleToLongBits(504.0), 0, 0,
            0, 5, 1, 0, 0, 4, 0, 0, 4, 0, 0, 200, 300, 0, 1));
        SlippedPlaces y = Disks.withDisk("2;1x4", 0);
        due.is("skew(1) ahead of skew(2)", y.digest(), fold(0, 0, 0, 0, 0, 1, 0, 0, 2, 0, 0, 3, 0, 0, 4, 0, 0, 5, 0, 0, 6, 0, 0, 7,
            0, 1, 2, 3, 4, 5, 6, 7,
            1, 8, 0,
            7560, Float.floatToIntBits(8 * 2520f / 7560), Double.doubleToLongBits(1575.0), 1, 0,
            0, 8, 8, 0, 0, 0, 0, 0, 0, 0, 0, 200, 300, 0, 1));
    }
}
