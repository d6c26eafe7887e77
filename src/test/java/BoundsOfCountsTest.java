import java.util.ArrayList;
import java.util.List;

/** The boundary cases of promises 20 and 21 and of refusals, a test for each sentence. */
public final class BoundsOfCountsTest {
    private static final int UNKNOWN = -1001, OUTSIDE = -1002, STATE = -1003, FULL = -1004;

    public static void main(String[] args) {
        Sentences s = new Sentences();
        all(s);
        s.end();
    }

    static void all(Sentences s) {
        s.holds("Terms", "Refusals, of several the first as told by each call", BoundsOfCountsTest::theFirstAsTold);
        s.holds("Terms", "STATE (as told), FULL; they change nothing", BoundsOfCountsTest::theyChangeNothing);
        s.holds("Promise 20", "0 letters of THE PAGE", BoundsOfCountsTest::lettersOfThePage);
        s.holds("Promise 20", "1 PLACES, 2 ADDRESSES", BoundsOfCountsTest::placesAndAddresses);
        s.holds("Promise 20", "3 SLIPPED", BoundsOfCountsTest::slipped);
        s.holds("Promise 20", "4 REPLACED, 5 FREE, 6 TAKEN, for an ADDRESS", BoundsOfCountsTest::replacedFreeTaken);
        s.holds("Promise 20", "7 PENDING", BoundsOfCountsTest::pending);
        s.holds("Promise 20", "8 SPARES (as told), 9 HEAD SKEW, 10 CYLINDER SKEW, 11 HEAD TICKS, 12 CYLINDER TICKS", BoundsOfCountsTest::settings);
        s.holds("Promise 20", "13 FORMATS by format(), ever", BoundsOfCountsTest::formatsEver);
        s.holds("Promise 20", "14 how often a DISK was read", BoundsOfCountsTest::disksRead);
        s.holds("Promise 20", "OUTSIDE.", BoundsOfCountsTest::countRefuses);
        s.holds("Promise 21", "h is 1733, then for each of these numbers, in order, 31 times h, and it", BoundsOfCountsTest::digestOfANewObject);
        s.holds("Promise 21", "(as longs, wrapping)", BoundsOfCountsTest::digestWraps);
        s.holds("Promise 21", "of each PLACE of() for 4, 5, 7; of each ADDRESS place()", BoundsOfCountsTest::digestOfPlaces);
        s.holds("Promise 21", "each pending()", BoundsOfCountsTest::digestOfPending);
        s.holds("Promise 21", "if there is a DISK runs() for 0 to 2", BoundsOfCountsTest::digestOfRuns);
        s.holds("Promise 21", "if there is an ADDRESS ticks() of all from 0 on, rate() of them, mean(), skew() for 1, 2", BoundsOfCountsTest::digestOfTimes);
        s.holds("Promise 21", "each letter of THE PAGE by its code", BoundsOfCountsTest::digestOfLetters);
        s.holds("Promise 21", "what count() tells for 0 to 14", BoundsOfCountsTest::digestOfCounts);
    }

    private static void theFirstAsTold(Due due) {
        SlippedPlaces full = Disks.withPage("1;1x4,1x4,1x4");
        due.refused("letter(127), outside and full", full, () -> full.letter(127), OUTSIDE);
        due.refused("letter(31), outside and full", full, () -> full.letter(31), OUTSIDE);
        due.refused("letter(126), full", full, () -> full.letter(126), FULL);
        SlippedPlaces none = new SlippedPlaces();
        SlippedPlaces there = Disks.withDisk("1;1x4");
        int[] places = {0, 4};
        for (int i = 0; i < places.length; i++) {
            SlippedPlaces x = i == 0 ? none : there;
            int place = places[i];
            due.refused("harm, unknown and outside", x, () -> x.harm(place, 3), UNKNOWN);
            due.refused("of, unknown and outside", x, () -> x.of(place, 9), UNKNOWN);
            due.refused("as, unknown and outside", x, () -> x.as(place, 3), UNKNOWN);
            due.refused("ticks, unknown and outside", x, () -> x.ticks(place, 0), UNKNOWN);
            due.refused("rate, unknown and outside", x, () -> x.rate(place, 0), UNKNOWN);
        }
        due.refused("runs, outside and no disk", none, () -> none.runs(3), OUTSIDE);
        due.refused("runs, no disk", none, () -> none.runs(2), STATE);
        due.refused("skew, outside and no address", none, () -> none.skew(3), OUTSIDE);
        due.refused("skew, no address", none, () -> none.skew(2), STATE);
    }

    /** A state in which most calls have something to change. */
    private static SlippedPlaces busy() {
        SlippedPlaces x = Disks.withDisk("2;1x5,1x4", 2);
        x.harm(0, 2);
        x.format(true);
        x.harm(1, 2);
        x.write(0);
        x.harm(2, 2);
        x.harm(3, 1);
        x.read(1);
        x.read(2);
        x.harm(x.place(0), 1);
        x.harm(x.place(x.count(2) - 1), 1);
        for (int what = 0; what < 5; what++) {
            x.set(what, what + 2);
        }
        Disks.type(x, "1;1x4,1x4,1x:");
        return x;
    }

    private static void refuseEverything(Due due, SlippedPlaces x) {
        int places = x.count(1);
        int addresses = x.count(2);
        due.refuseAll("letter", x, new int[] {31, 127}, x::letter, OUTSIDE);
        due.refused("letter('4')", x, () -> x.letter('4'), FULL);
        due.refused("disk()", x, x::disk, STATE);
        for (int what = -1; what <= 5; what++) {
            int w = what;
            due.refused("set(" + what + ", 1000)", x, () -> x.set(w, 1000), OUTSIDE);
            due.refused("set(" + what + ", -1)", x, () -> x.set(w, -1), OUTSIDE);
        }
        due.refuseAll("harm of", x, Edges.outside(0, places - 1), p -> x.harm(p, 1), UNKNOWN);
        due.refuseAll("harm by", x, Edges.outside(0, 2), how -> x.harm(2, how), OUTSIDE);
        due.refuseAll("read", x, Edges.outside(0, addresses - 1), x::read, UNKNOWN);
        due.refuseAll("write", x, Edges.outside(0, addresses - 1), x::write, UNKNOWN);
        due.refuseAll("place", x, Edges.outside(0, addresses - 1), x::place, UNKNOWN);
        due.refuseAll("pending", x, Edges.outside(0, x.count(7) - 1), x::pending, UNKNOWN);
        due.refuseAll("runs", x, Edges.outside(0, 2), x::runs, OUTSIDE);
        due.refuseAll("ticks of", x, Edges.outside(1, addresses), n -> x.ticks(0, n), OUTSIDE);
        due.refuseAll("rate of", x, Edges.outside(1, addresses), n -> x.rate(0, n), OUTSIDE);
        due.refuseAll("skew", x, Edges.outside(1, 2), x::skew, OUTSIDE);
        due.refuseAll("count", x, Edges.outside(0, 14), x::count, OUTSIDE);
    }

    private static void theyChangeNothing(Due due) {
        SlippedPlaces x = busy();
        SlippedPlaces twin = busy();
        refuseEverything(due, x);
        due.is("digest() as of one that was not asked", x.digest(), twin.digest());
        due.is("blank()", x.blank(), twin.blank());
        due.is("write(1)", x.write(1), twin.write(1));
        due.is("write(2)", x.write(2), twin.write(2));
        due.is("digest()", x.digest(), twin.digest());
        due.is("format(false)", x.format(false), twin.format(false));
        due.is("digest() then", x.digest(), twin.digest());
        SlippedPlaces none = new SlippedPlaces();
        due.refused("format(true), no disk", none, () -> none.format(true), STATE);
        due.refused("format(false), no disk", none, () -> none.format(false), STATE);
        due.refused("mean(), no disk", none, none::mean, STATE);
        due.is("digest() as of a new one", none.digest(), new SlippedPlaces().digest());
    }

    private static void lettersOfThePage(Due due) {
        SlippedPlaces x = new SlippedPlaces();
        due.is("none", x.count(0), 0);
        for (int n = 1; n <= 14; n++) {
            x.letter('z');
            due.is("behind letter " + n, x.count(0), Math.min(n, 13));
        }
        x.blank();
        due.is("blanked", x.count(0), 0);
    }

    private static void placesAndAddresses(Due due) {
        SlippedPlaces x = new SlippedPlaces();
        due.is("no disk: places", x.count(1), 0);
        due.is("no disk: addresses", x.count(2), 0);
        x.set(0, 4);
        Disks.type(x, "1;1x4");
        due.is("on the page: places", x.count(1), 0);
        x.disk();
        due.is("the least: places", x.count(1), 4);
        due.is("the least: addresses", x.count(2), 0);
        x.set(0, 0);
        Disks.type(x, "3;4x9,4x9,4x9");
        x.disk();
        due.is("the greatest: places", x.count(1), 324);
        due.is("the greatest: addresses", x.count(2), 324);
        x.harm(0, 2);
        x.format(true);
        due.is("one slipped: places", x.count(1), 324);
        due.is("one slipped: addresses", x.count(2), 323);
        x.harm(1, 2);
        x.write(0);
        due.is("a write: addresses", x.count(2), 323);
    }

    private static void slipped(Due due) {
        SlippedPlaces x = Disks.withDisk("3;4x9,4x9,4x9");
        due.is("none", x.count(3), 0);
        x.harm(323, 1);
        due.is("none, not formatted yet", x.count(3), 0);
        x.format(true);
        due.is("one", x.count(3), 1);
        for (int p = 0; p < 324; p++) {
            x.harm(p, 2);
        }
        due.is("one still", x.count(3), 1);
        x.format(true);
        due.is("all", x.count(3), 324);
        due.is("addresses", x.count(2), 0);
        due.is("free ones", x.count(5), 0);
    }

    private static void replacedFreeTaken(Due due) {
        SlippedPlaces x = Disks.withDisk("3;4x9,4x9,4x9", 4);
        for (int n = 0; n < 12; n++) {
            due.is("replaced " + n, x.count(4), n);
            due.is("free " + n, x.count(5), 12 - n);
            due.is("taken " + n, x.count(6), n);
            x.harm(n, 2);
            due.is("write(" + n + ")", x.write(n), 2);
        }
        x.harm(12, 2);
        due.is("write(12), none left", x.write(12), 3);
        due.are("all taken", new long[] {x.count(4), x.count(5), x.count(6)}, 12, 0, 12);
        x.format(false);
        due.are("formatted", new long[] {x.count(3), x.count(4), x.count(5), x.count(6)}, 12, 0, 12, 0);
        SlippedPlaces y = Disks.withDisk("1;1x9", 4);
        for (int n = 1; n <= 4; n++) {
            y.harm(y.place(0), 2);
            y.write(0);
            due.are("one address, replaced again and again", new long[] {y.count(4), y.count(5), y.count(6)}, n, 4 - n, 1);
        }
        SlippedPlaces z = Disks.withDisk("1;1x4", 4);
        z.harm(0, 2);
        due.is("a free one that is bad is free", z.count(5), 4);
    }

    private static void pending(Due due) {
        SlippedPlaces x = Disks.withDisk("3;4x9,4x9,4x9", 0);
        due.is("none", x.count(7), 0);
        for (int p = 0; p < 120; p++) {
            x.harm(p, 2);
            x.read(p);
            due.is("behind read(" + p + ")", x.count(7), p + 1);
        }
        x.read(0);
        due.is("the same again", x.count(7), 120);
        x.write(0);
        due.is("a write that failed", x.count(7), 120);
        x.harm(0, 1);
        x.write(0);
        due.is("a write", x.count(7), 119);
        x.format(false);
        due.is("formatted", x.count(7), 0);
    }

    private static void settings(Due due) {
        int[] first = {1, 0, 0, 200, 300};
        int[] most = {4, 8, 8, 999, 999};
        SlippedPlaces x = new SlippedPlaces();
        for (int what = 0; what < 5; what++) {
            due.is("count(" + (8 + what) + ") at first", x.count(8 + what), first[what]);
            x.set(what, most[what]);
        }
        for (int what = 0; what < 5; what++) {
            due.is("count(" + (8 + what) + ") at its most", x.count(8 + what), most[what]);
            x.set(what, most[what] + 1);
            due.is("count(" + (8 + what) + ") behind a refusal", x.count(8 + what), most[what]);
            x.set(what, 0);
        }
        for (int what = 0; what < 5; what++) {
            due.is("count(" + (8 + what) + ") at its least", x.count(8 + what), 0);
        }
        SlippedPlaces y = Disks.withDisk("1;1x5");
        y.set(0, 3);
        due.is("spares as told, not as formatted", y.count(8), 3);
    }

    private static void formatsEver(Due due) {
        SlippedPlaces x = new SlippedPlaces();
        x.format(true);
        due.is("one that was refused", x.count(13), 0);
        Disks.type(x, "1;1x4");
        x.disk();
        due.is("a disk that was read", x.count(13), 0);
        for (int n = 1; n <= 100; n++) {
            x.format(n % 2 == 0);
            due.is("format " + n, x.count(13), n);
        }
        Disks.type(x, "1;1x5");
        x.disk();
        due.is("ever: another disk", x.count(13), 100);
        x.format(false);
        due.is("ever", x.count(13), 101);
    }

    private static void disksRead(Due due) {
        SlippedPlaces x = new SlippedPlaces();
        due.is("none", x.count(14), 0);
        x.disk();
        due.is("one that was refused", x.count(14), 0);
        for (int n = 1; n <= 20; n++) {
            Disks.type(x, "1;1x4");
            due.is("on the page", x.count(14), n - 1);
            x.disk();
            due.is("disk " + n, x.count(14), n);
        }
        x.disk();
        x.format(false);
        due.is("a refusal and a format", x.count(14), 20);
    }

    private static void countRefuses(Due due) {
        for (SlippedPlaces x : new SlippedPlaces[] {new SlippedPlaces(), busy()}) {
            due.refuseAll("count", x, Edges.outside(0, 14), x::count, OUTSIDE);
            for (int what = 0; what <= 14; what++) {
                due.holds("count(" + what + ") is told", x.count(what) >= 0);
            }
        }
    }

    private static long fold(List<Long> numbers) {
        long h = 1733;
        for (long number : numbers) {
            h = 31 * h + number;
        }
        return h;
    }

    private static long fold(long... numbers) {
        List<Long> all = new ArrayList<>();
        for (long number : numbers) {
            all.add(number);
        }
        return fold(all);
    }

    private static void add(List<Long> all, long... numbers) {
        for (long number : numbers) {
            all.add(number);
        }
    }

    /** What digest() has to answer, by the other calls and the letters that were typed. */
    private static long byOtherCalls(SlippedPlaces x, String page) {
        List<Long> all = new ArrayList<>();
        for (int p = 0; p < x.count(1); p++) {
            add(all, x.of(p, 4), x.of(p, 5), x.of(p, 7));
        }
        add(all, Disks.places(x));
        add(all, Disks.pendings(x));
        if (x.count(1) > 0) {
            add(all, Disks.runs(x));
        }
        int n = x.count(2);
        if (n > 0) {
            add(all, x.ticks(0, n), x.rate(0, n), x.mean(), x.skew(1), x.skew(2));
        }
        for (char c : page.toCharArray()) {
            add(all, c);
        }
        add(all, Disks.counts(x));
        return fold(all);
    }

    private static void digestIsByOtherCalls(Due due, String when, SlippedPlaces x, String page) {
        long first = x.digest();
        due.is("digest(), " + when, first, byOtherCalls(x, page));
        due.is("digest() again, " + when, x.digest(), first);
    }

    private static void digestOfANewObject(Due due) {
        due.is("digest() of a new object", new SlippedPlaces().digest(), fold(0, 0, 0, 0, 0, 0, 0, 0, 1, 0, 0, 200, 300, 0, 0));
        SlippedPlaces x = new SlippedPlaces();
        x.set(4, 301);
        due.is("one number is 1 more, two behind it", x.digest() - new SlippedPlaces().digest(), 31 * 31);
    }

    private static void digestWraps(Due due) {
        SlippedPlaces x = Disks.withDisk("1;1x4", 4);
        due.is("digest() of 12 + 3 + 15 numbers", x.digest(), fold(0, 1, -1, 0, 1, -1, 0, 1, -1, 0, 1, -1, 0, 0, -1,
            0, 4, 0, 0, 0, 4, 0, 0, 4, 0, 0, 200, 300, 0, 1));
        java.math.BigInteger h = java.math.BigInteger.valueOf(1733);
        for (long number : new long[] {'~', 1, 0, 0, 0, 0, 0, 0, 0, 1, 0, 0, 200, 300, 0, 0}) {
            h = h.multiply(java.math.BigInteger.valueOf(31)).add(java.math.BigInteger.valueOf(number));
        }
        due.holds("it is past the longs", h.bitLength() > 64);
        due.is("digest() past the longs", Disks.withPage("~").digest(), h.longValue());
    }

    private static void digestOfPlaces(Due due) {
        digestIsByOtherCalls(due, "the least disk", Disks.withDisk("1;1x4"), "");
        digestIsByOtherCalls(due, "no address", Disks.withDisk("1;1x4", 4), "");
        digestIsByOtherCalls(due, "addresses alone", Disks.withDisk("1;1x4", 0), "");
        digestIsByOtherCalls(due, "a busy disk", busy(), "1;1x4,1x4,1x:");
        SlippedPlaces x = Disks.withDisk("1;1x4", 4);
        long before = x.digest();
        x.harm(3, 1);
        due.is("the last place weak", x.digest() - before, power(2 + 3 + 15));
        x.harm(3, 0);
        x.harm(0, 2);
        due.is("the first place bad", x.digest() - before, 2 * power(11 + 3 + 15));
    }

    private static long power(int n) {
        long h = 1;
        for (int i = 0; i < n; i++) {
            h = 31 * h;
        }
        return h;
    }

    private static void digestOfPending(Due due) {
        SlippedPlaces x = Disks.withDisk("1;1x4", 0);
        for (int p = 3; p >= 0; p--) {
            x.harm(p, 1);
            x.read(p);
            digestIsByOtherCalls(due, "behind read(" + p + ")", x, "");
        }
        for (int p = 0; p < 4; p++) {
            x.write(p);
        }
        due.is("none pending again", x.digest(), Disks.withDisk("1;1x4", 0).digest());
    }

    private static void digestOfRuns(Due due) {
        SlippedPlaces typed = Disks.withPage("1;1x4");
        due.is("no disk", typed.digest(), fold('1', ';', '1', 'x', '4', 5, 0, 0, 0, 0, 0, 0, 0, 1, 0, 0, 200, 300, 0, 0));
        SlippedPlaces free = Disks.withDisk("1;1x4", 4);
        due.is("a disk without an address", free.digest(), fold(0, 1, -1, 0, 1, -1, 0, 1, -1, 0, 1, -1, 0, 0, -1,
            0, 4, 0, 0, 0, 4, 0, 0, 4, 0, 0, 200, 300, 0, 1));
        SlippedPlaces x = Disks.withDisk("1;1x4,1x5");
        digestIsByOtherCalls(due, "two runs, the second the longest", x, "");
        due.are("runs", Disks.runs(x), 2, 4, 3);
    }

    private static void digestOfTimes(Due due) {
        SlippedPlaces one = Disks.withDisk("1;1x5", 4);
        due.is("one address", one.digest(), fold(0, 0, 0, 0, 1, -1, 0, 1, -1, 0, 1, -1, 0, 1, -1, 0, 1, 1, 0,
            504, 0x40a00000, 0x407f800000000000L, 0, 0, 0, 5, 1, 0, 0, 4, 0, 0, 4, 0, 0, 200, 300, 0, 1));
        SlippedPlaces x = Disks.withDisk("2;2x4,1x5", 1);
        x.set(1, 3);
        x.set(2, 1);
        x.set(3, 700);
        x.set(4, 999);
        digestIsByOtherCalls(due, "by skews and ticks", x, "");
        SlippedPlaces y = Disks.withDisk("2;1x4");
        due.is("skew(1)", y.skew(1), 1);
        due.is("skew(2)", y.skew(2), 0);
        digestIsByOtherCalls(due, "by different skews", y, "");
    }

    private static void digestOfLetters(Due due) {
        String page = " ~1;x,zZ019!A";
        for (int n = 0; n <= 13; n++) {
            SlippedPlaces x = Disks.withDisk("1;1x4");
            Disks.type(x, page.substring(0, n));
            digestIsByOtherCalls(due, n + " letters", x, page.substring(0, n));
            x.blank();
            digestIsByOtherCalls(due, n + " letters blanked", x, "");
        }
    }

    private static void digestOfCounts(Due due) {
        SlippedPlaces x = new SlippedPlaces();
        for (int what = 0; what < 5; what++) {
            long before = x.digest();
            int was = x.set(what, 4);
            due.is("set(" + what + ", 4)", x.digest() - before, (4 - was) * power(14 - 8 - what));
        }
        SlippedPlaces y = Disks.withDisk("1;1x4");
        long before = y.digest();
        y.format(false);
        due.is("a format", y.digest() - before, 31);
        Disks.type(y, "1;1x4");
        y.disk();
        due.is("another disk", y.digest() - before, 32);
    }
}
