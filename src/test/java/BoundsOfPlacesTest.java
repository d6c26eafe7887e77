/** The boundary cases of PLACES and ADDRESSES, of reads and writes, and of promises 9 to 14, a test for each sentence. */
public final class BoundsOfPlacesTest {
    private static final int NONE = -1, UNKNOWN = -1001, OUTSIDE = -1002;

    public static void main(String[] args) {
        Sentences s = new Sentences();
        all(s);
        s.end();
    }

    static void all(Sentences s) {
        s.holds("Terms", "CYLINDERS are numbered from 0 over all ZONES; each has as many TRACKS as there are HEADS",
            BoundsOfPlacesTest::cylindersOverAllZones);
        s.holds("Terms", "PLACES are numbered from 0: by CYLINDERS, in these by HEADS, in these by SECTORS",
            BoundsOfPlacesTest::placesByNumber);
        s.holds("Terms", "An ADDRESS is read: if its PLACE is not GOOD, that fails, and it is PENDING", BoundsOfPlacesTest::readFails);
        s.holds("Terms", "(else it stays as it was)", BoundsOfPlacesTest::readLeavesPending);
        s.holds("Terms", "It is written: if its PLACE is WEAK, that is GOOD again", BoundsOfPlacesTest::weakIsWritten);
        s.holds("Terms", "if it is BAD, it is REPLACED: the NEAREST one of the FREE ones is TAKEN", BoundsOfPlacesTest::badIsWritten);
        s.holds("Terms", "it is the PLACE of this ADDRESS from then on", BoundsOfPlacesTest::fromThenOn);
        s.holds("Terms", "(GOOD again, if it was WEAK)", BoundsOfPlacesTest::weakSpare);
        s.holds("Terms", "if there is none, it fails, and the ADDRESS is PENDING", BoundsOfPlacesTest::noneIsLeft);
        s.holds("Terms", "Whenever it was written and that did not fail, it is not PENDING any more", BoundsOfPlacesTest::notPendingAnyMore);
        s.holds("Terms", "NEAREST: of the FREE ones that are not BAD", BoundsOfPlacesTest::freeOnesThatAreBad);
        s.holds("Terms", "that whose CYLINDER differs least from its own", BoundsOfPlacesTest::differsLeast);
        s.holds("Terms", "from its own, of like ones the least", BoundsOfPlacesTest::ofLikeOnesTheLeast);
        s.holds("Promise 9", "what = 0 CYLINDER, 1 HEAD, 2 SECTOR, 3 ZONE", BoundsOfPlacesTest::whereAPlaceLies);
        s.holds("Promise 9", "4 how it is (0 GOOD, 1 WEAK, 2 BAD)", BoundsOfPlacesTest::howItIs);
        s.holds("Promise 9", "0 an ADDRESS, 1 FREE, 2 TAKEN, for an ADDRESS, 3 SLIPPED, 4 REPLACED", BoundsOfPlacesTest::whatItIsFor);
        s.holds("Promise 9", "7 its ADDRESS (NONE)", BoundsOfPlacesTest::itsAddress);
        s.holds("Promise 9", "8 the NEAREST one for it (NONE)", BoundsOfPlacesTest::theNearestForIt);
        s.holds("Promise 9", "UNKNOWN; OUTSIDE.", BoundsOfPlacesTest::ofRefuses);
        s.holds("Promise 10", "The PLACE of an ADDRESS. UNKNOWN.", BoundsOfPlacesTest::placeOfAnAddress);
        s.holds("Promise 11", "(0 any, 1 such as an ADDRESS has, 2 another one): its own number", BoundsOfPlacesTest::asAKind);
        s.holds("Promise 11", "NONE: it is none such", BoundsOfPlacesTest::noneSuch);
        s.holds("Promise 11", "UNKNOWN: place; OUTSIDE: kind", BoundsOfPlacesTest::asRefuses);
        s.holds("Promise 12", "0 well, 1 it fails.", BoundsOfPlacesTest::readAnswers);
        s.holds("Promise 12", "it fails. UNKNOWN.", BoundsOfPlacesTest::readRefuses);
        s.holds("Promise 13", "0 well, 1 its PLACE is GOOD again, 2 it was REPLACED, 3 it fails", BoundsOfPlacesTest::writeAnswers);
        s.holds("Promise 13", "3 it fails. UNKNOWN.", BoundsOfPlacesTest::writeRefuses);
        s.holds("Promise 14", "by its place among these (from 0, the least first)", BoundsOfPlacesTest::theLeastFirst);
        s.holds("Promise 14", "UNKNOWN: there are not so many", BoundsOfPlacesTest::notSoMany);
    }

    private static void cylindersOverAllZones(Due due) {
        SlippedPlaces x = Disks.withDisk("2;1x4,2x5,1x4");
        due.are("cylinder", Disks.ofAll(x, 0), 0, 0, 0, 0, 0, 0, 0, 0,
            1, 1, 1, 1, 1, 1, 1, 1, 1, 1, 2, 2, 2, 2, 2, 2, 2, 2, 2, 2, 3, 3, 3, 3, 3, 3, 3, 3);
        due.are("head", Disks.ofAll(x, 1), 0, 0, 0, 0, 1, 1, 1, 1,
            0, 0, 0, 0, 0, 1, 1, 1, 1, 1, 0, 0, 0, 0, 0, 1, 1, 1, 1, 1, 0, 0, 0, 0, 1, 1, 1, 1);
        SlippedPlaces y = Disks.withDisk("3;4x4,4x4,4x4");
        for (int cylinder = 0; cylinder < 12; cylinder++) {
            due.is("first place of cylinder " + cylinder, y.of(12 * cylinder, 0), cylinder);
            due.is("last place of cylinder " + cylinder, y.of(12 * cylinder + 11, 0), cylinder);
            due.is("zone of cylinder " + cylinder, y.of(12 * cylinder, 3), cylinder / 4);
            due.is("last head of cylinder " + cylinder, y.of(12 * cylinder + 11, 1), 2);
        }
    }

    private static void placesByNumber(Due due) {
        for (int what = 0; what <= 2; what++) {
            SlippedPlaces x = Disks.withDisk("3;4x9,4x9,4x9");
            for (int p = 0; p < 324; p++) {
                int want = what == 0 ? p / 27 : what == 1 ? p / 9 % 3 : p % 9;
                due.is("of(" + p + ", " + what + ")", x.of(p, what), want);
            }
        }
        SlippedPlaces y = Disks.withDisk("1;1x4,1x9,1x5");
        due.are("sector", Disks.ofAll(y, 2), 0, 1, 2, 3, 0, 1, 2, 3, 4, 5, 6, 7, 8, 0, 1, 2, 3, 4);
    }

    private static void readFails(Due due) {
        for (int spares = 0; spares <= 1; spares++) {
            SlippedPlaces x = Disks.withDisk("1;1x6", spares);
            x.harm(1, 1);
            x.harm(2, 2);
            due.is("read(0), good", x.read(0), 0);
            due.is("nothing is pending", x.count(7), 0);
            due.is("read(1), weak", x.read(1), 1);
            due.are("pending", Disks.pendings(x), 1);
            due.is("read(2), bad", x.read(2), 1);
            due.are("pending then", Disks.pendings(x), 1, 2);
            due.is("read(1) again", x.read(1), 1);
            due.are("pending once alone", Disks.pendings(x), 1, 2);
            due.are("a read mends nothing", Disks.ofAll(x, 4), 0, 1, 2, 0, 0, 0);
            due.is("a read replaces nothing", x.count(4), 0);
        }
    }

    private static void readLeavesPending(Due due) {
        SlippedPlaces x = Disks.withDisk("1;1x5");
        x.harm(0, 1);
        x.harm(1, 2);
        x.read(0);
        x.read(1);
        x.harm(0, 0);
        x.harm(1, 0);
        long before = x.digest();
        due.is("read(0), good by now", x.read(0), 0);
        due.is("read(1), good by now", x.read(1), 0);
        due.are("pending as they were", Disks.pendings(x), 0, 1);
        due.is("read(2), good ever", x.read(2), 0);
        due.are("not pending as it was", Disks.pendings(x), 0, 1);
        due.is("digest() as it was", x.digest(), before);
    }

    private static void weakIsWritten(Due due) {
        for (int spares = 0; spares <= 1; spares++) {
            SlippedPlaces x = Disks.withDisk("1;1x5", spares);
            x.harm(0, 1);
            x.harm(1, 1);
            due.is("write(0), weak, " + spares + " spares", x.write(0), 1);
            due.is("it is good", x.of(0, 4), 0);
            due.is("it has its place still", x.place(0), 0);
            due.is("the other one is weak still", x.of(1, 4), 1);
            due.is("free ones", x.count(5), spares);
            due.is("replaced", x.count(4), 0);
            due.is("write(0) again", x.write(0), 0);
            due.is("write(2), good", x.write(2), 0);
        }
        SlippedPlaces y = Disks.withDisk("1;1x5");
        y.harm(0, 2);
        y.write(0);
        y.harm(4, 1);
        due.is("write(0), whose taken one is weak", y.write(0), 1);
        due.is("it is good again", y.of(4, 4), 0);
        due.is("it is taken still", y.of(4, 5), 2);
    }

    private static void badIsWritten(Due due) {
        SlippedPlaces x = Disks.withDisk("1;1x4,1x4");
        x.harm(0, 2);
        x.harm(4, 2);
        due.is("write(0)", x.write(0), 2);
        due.are("what each is for", Disks.ofAll(x, 5), 4, 0, 0, 2, 0, 0, 0, 1);
        due.are("how each is", Disks.ofAll(x, 4), 2, 0, 0, 0, 2, 0, 0, 0);
        due.is("write(3), the last free one", x.write(3), 2);
        due.are("what each is for then", Disks.ofAll(x, 5), 4, 0, 0, 2, 4, 0, 0, 2);
        due.is("free ones", x.count(5), 0);
        SlippedPlaces y = Disks.withDisk("1;1x4,1x4,1x4");
        y.harm(4, 2);
        due.is("of(4, 8)", y.of(4, 8), 7);
        y.write(3);
        due.is("the nearest one was taken", y.place(3), 7);
        // the taken one lies in cylinder 1; both free ones are a cylinder away from it
        y.harm(7, 2);
        due.is("of(7, 8)", y.of(7, 8), 3);
        due.is("write(3), whose taken one is bad", y.write(3), 2);
        due.is("place(3)", y.place(3), 3);
        y.harm(3, 2);
        due.is("write(3), once more", y.write(3), 2);
        due.is("place(3) then", y.place(3), 11);
        due.are("what each is for", Disks.ofAll(y, 5), 0, 0, 0, 4, 4, 0, 0, 4, 0, 0, 0, 2);
        takenOnesOwnCylinder(due);
    }

    private static void takenOnesOwnCylinder(Due due) {
        SlippedPlaces x = Disks.withDisk("1;1x4,1x4,2x4");
        // free ones: 3 (cylinder 0), 7 (1), 15 (3); address 0 goes to cylinder 3, where 7 is nearer than 3
        x.harm(3, 2);
        x.harm(7, 2);
        x.harm(0, 2);
        x.write(0);
        due.is("place(0)", x.place(0), 15);
        x.harm(3, 0);
        x.harm(7, 0);
        x.harm(15, 2);
        due.is("of(15, 8)", x.of(15, 8), 7);
        due.is("write(0)", x.write(0), 2);
        due.is("nearest to the place it has, not to its first one", x.place(0), 7);
    }

    private static void fromThenOn(Due due) {
        SlippedPlaces x = Disks.withDisk("1;1x5,1x5");
        x.harm(3, 2);
        x.write(3);
        due.is("place(3)", x.place(3), 4);
        due.is("of(4, 7)", x.of(4, 7), 3);
        due.is("of(3, 7)", x.of(3, 7), NONE);
        due.are("the others keep theirs", Disks.places(x), 0, 1, 2, 4, 5, 6, 7, 8);
        due.is("read(3)", x.read(3), 0);
        x.harm(3, 0);
        due.is("place(3), the first one good by now", x.place(3), 4);
        x.harm(4, 1);
        due.is("read(3), the taken one weak", x.read(3), 1);
        due.is("write(3)", x.write(3), 1);
        due.is("place(3) still", x.place(3), 4);
        due.is("replaced still", x.of(3, 5), 4);
    }

    private static void weakSpare(Due due) {
        SlippedPlaces x = Disks.withDisk("1;1x4");
        x.harm(3, 1);
        x.harm(0, 2);
        due.is("write(0)", x.write(0), 2);
        due.is("place(0)", x.place(0), 3);
        due.is("the taken one is good again", x.of(3, 4), 0);
        due.is("the replaced one is bad still", x.of(0, 4), 2);
        due.is("read(0)", x.read(0), 0);
        due.is("pending", x.count(7), 0);
    }

    private static void noneIsLeft(Due due) {
        SlippedPlaces[] without = {Disks.withDisk("1;1x4", 0), Disks.withDisk("1;1x5"), Disks.withDisk("1;1x5")};
        without[1].harm(4, 2);
        without[2].harm(3, 2);
        without[2].write(3);
        String[] why = {"no spares", "the free one is bad", "the free one is taken"};
        for (int i = 0; i < without.length; i++) {
            SlippedPlaces x = without[i];
            long[] uses = Disks.ofAll(x, 5);
            x.harm(1, 2);
            due.is("write(1), " + why[i], x.write(1), 3);
            due.are("pending", Disks.pendings(x), 1);
            due.is("place(1)", x.place(1), 1);
            due.is("how it is", x.of(1, 4), 2);
            due.are("what each is for", Disks.ofAll(x, 5), uses);
            due.is("write(1) again", x.write(1), 3);
            due.are("pending once alone", Disks.pendings(x), 1);
            x.harm(0, 1);
            due.is("write(0), weak, needs none", x.write(0), 1);
            due.is("write(2), good, needs none", x.write(2), 0);
            due.are("pending still", Disks.pendings(x), 1);
        }
        SlippedPlaces x = without[1];
        x.harm(4, 1);
        due.is("write(1), with a weak one", x.write(1), 2);
        due.is("pending then", x.count(7), 0);
    }

    private static void notPendingAnyMore(Due due) {
        SlippedPlaces x = Disks.withDisk("1;1x8");
        for (int p = 0; p < 4; p++) {
            x.harm(p, p % 2 + 1);
            x.read(p);
        }
        due.are("pending", Disks.pendings(x), 0, 1, 2, 3);
        due.is("write(0), weak", x.write(0), 1);
        due.are("pending behind 1", Disks.pendings(x), 1, 2, 3);
        due.is("write(1), bad", x.write(1), 2);
        due.are("pending behind 2", Disks.pendings(x), 2, 3);
        x.harm(2, 0);
        due.is("write(2), good by now", x.write(2), 0);
        due.are("pending behind 0", Disks.pendings(x), 3);
        due.is("write(3), bad, none left", x.write(3), 3);
        due.are("pending behind 3", Disks.pendings(x), 3);
        x.harm(3, 1);
        due.is("write(3), weak by now", x.write(3), 1);
        due.is("nothing is pending", x.count(7), 0);
        due.is("write(4), never pending", x.write(4), 0);
        due.is("nothing is pending still", x.count(7), 0);
    }

    private static void freeOnesThatAreBad(Due due) {
        SlippedPlaces x = Disks.withDisk("1;1x6", 3);
        due.is("the first free one", x.of(0, 8), 3);
        x.harm(3, 1);
        due.is("weak", x.of(0, 8), 3);
        x.harm(3, 2);
        due.is("bad", x.of(0, 8), 4);
        x.harm(4, 2);
        due.is("both bad", x.of(0, 8), 5);
        x.harm(5, 2);
        for (int p = 0; p < 6; p++) {
            due.is("all bad: of(" + p + ", 8)", x.of(p, 8), NONE);
        }
        due.is("they are free still", x.count(5), 3);
        x.harm(0, 2);
        due.is("write(0)", x.write(0), 3);
        x.harm(5, 0);
        due.is("write(0), one good by now", x.write(0), 2);
        due.is("place(0)", x.place(0), 5);
        SlippedPlaces taken = Disks.withDisk("1;1x6", 2);
        taken.harm(0, 2);
        taken.write(0);
        due.is("a taken one is not free", taken.of(0, 8), 5);
        SlippedPlaces y = Disks.withDisk("1;1x4");
        y.harm(3, 2);
        y.format(true);
        y.harm(3, 0);
        due.is("a slipped one is not free, the new free one is", y.of(0, 8), 2);
    }

    private static void differsLeast(Due due) {
        SlippedPlaces x = Disks.withDisk("1;4x4,4x4,4x4");
        // free ones: 15 (cylinder 3), 31 (cylinder 7), 47 (cylinder 11)
        int[] nearest = {15, 15, 15, 15, 15, 15, 31, 31, 31, 31, 47, 47};
        for (int cylinder = 0; cylinder < 12; cylinder++) {
            due.is("first of cylinder " + cylinder, x.of(4 * cylinder, 8), nearest[cylinder]);
            due.is("last of cylinder " + cylinder, x.of(4 * cylinder + 3, 8), nearest[cylinder]);
        }
        x.harm(15, 2);
        due.is("four above, none below", x.of(0, 8), 31);
        x.harm(31, 2);
        due.is("eleven above", x.of(0, 8), 47);
        due.is("the free one for itself", x.of(47, 8), 47);
        x.harm(47, 2);
        x.harm(15, 0);
        due.is("eight below", x.of(44, 8), 15);
        due.is("a place next to it is not nearer than its own cylinder's", Disks.withDisk("1;1x4,1x9").of(4, 8), 12);
        SlippedPlaces y = Disks.withDisk("3;2x4", 4);
        due.is("the same cylinder, another head", y.of(12, 8), 20);
        due.is("one away", y.of(0, 8), 20);
    }

    private static void ofLikeOnesTheLeast(Due due) {
        SlippedPlaces x = Disks.withDisk("1;1x4,1x4,1x4", 2);
        // free ones: 2, 3 (cylinder 0), 6, 7 (1), 10, 11 (2)
        due.is("two in one cylinder", x.of(4, 8), 6);
        due.is("for the greater of them too", x.of(7, 8), 6);
        x.harm(6, 2);
        due.is("the greater, if it is alone", x.of(4, 8), 7);
        x.harm(7, 2);
        due.is("four, two on each side", x.of(4, 8), 2);
        x.harm(2, 2);
        due.is("three", x.of(4, 8), 3);
        x.harm(3, 2);
        due.is("those above", x.of(4, 8), 10);
        x.harm(10, 2);
        due.is("the last", x.of(4, 8), 11);
        x.harm(2, 0);
        due.is("one below, one above", x.of(4, 8), 2);
        x.harm(4, 2);
        due.is("write of it", x.write(2), 2);
        due.is("its place", x.place(2), 2);
    }

    private static void whereAPlaceLies(Due due) {
        SlippedPlaces x = Disks.withDisk("3;4x9,4x9,4x9");
        int[] places = {0, 107, 108, 215, 216, 323}; // the first and the last of each zone
        int[][] answers = {{0, 0, 0, 0}, {3, 2, 8, 0}, {4, 0, 0, 1}, {7, 2, 8, 1}, {8, 0, 0, 2}, {11, 2, 8, 2}};
        for (int i = 0; i < places.length; i++) {
            for (int what = 0; what <= 3; what++) {
                due.is("of(" + places[i] + ", " + what + ")", x.of(places[i], what), answers[i][what]);
            }
        }
    }

    private static void howItIs(Due due) {
        SlippedPlaces x = Disks.withDisk("3;4x9,4x9,4x9");
        for (int p : new int[] {0, 322, 323}) {
            due.is("good", x.of(p, 4), 0);
            x.harm(p, 1);
            due.is("weak", x.of(p, 4), 1);
            x.harm(p, 2);
            due.is("bad", x.of(p, 4), 2);
            x.harm(p, 0);
            due.is("good again", x.of(p, 4), 0);
        }
    }

    /** A disk of six PLACES that are SLIPPED, REPLACED, an ADDRESS's (two), TAKEN and FREE. */
    private static SlippedPlaces everyUse() {
        SlippedPlaces x = Disks.withDisk("1;1x6", 2);
        x.harm(0, 2);
        x.format(true);
        x.harm(1, 2);
        x.write(0);
        return x;
    }

    private static void whatItIsFor(Due due) {
        SlippedPlaces x = everyUse();
        due.are("what each is for", Disks.ofAll(x, 5), 3, 4, 0, 0, 2, 1);
        for (int use = 3; use <= 6; use++) {
            due.is("count(" + use + ")", x.count(use), 1);
        }
        x.harm(5, 2);
        x.harm(4, 2);
        due.is("write(0)", x.write(0), 3);
        due.are("a write that fails changes none of it", Disks.ofAll(x, 5), 3, 4, 0, 0, 2, 1);
    }

    private static void itsAddress(Due due) {
        SlippedPlaces x = everyUse();
        due.are("none if slipped, replaced, free", Disks.ofAll(x, 7), -1, -1, 1, 2, 0, -1);
        SlippedPlaces y = Disks.withDisk("1;1x4", 0);
        due.are("all", Disks.ofAll(y, 7), 0, 1, 2, 3);
        y.set(0, 4);
        y.format(false);
        due.are("none", Disks.ofAll(y, 7), -1, -1, -1, -1);
        SlippedPlaces z = Disks.withDisk("3;4x9,4x9,4x9", 0);
        due.is("the last of the greatest", z.of(323, 7), 323);
    }

    private static void theNearestForIt(Due due) {
        SlippedPlaces x = everyUse();
        due.are("one free one, for all", Disks.ofAll(x, 8), 5, 5, 5, 5, 5, 5);
        x.harm(5, 2);
        due.are("none", Disks.ofAll(x, 8), -1, -1, -1, -1, -1, -1);
        SlippedPlaces y = Disks.withDisk("1;1x4", 0);
        due.are("no spares", Disks.ofAll(y, 8), -1, -1, -1, -1);
        y.set(0, 4);
        y.format(false);
        due.are("all are free", Disks.ofAll(y, 8), 0, 0, 0, 0);
        theNearestWhateverItIsFor(due);
    }

    private static void theNearestWhateverItIsFor(Due due) {
        SlippedPlaces x = Disks.withDisk("1;1x5,1x5,1x5", 2);
        x.harm(5, 2);
        x.format(true);
        x.harm(10, 2);
        x.write(5);
        // free ones: 3, 4 (cylinder 0), 8, 9 (1), 14 (2)
        due.are("what each is for", Disks.ofAll(x, 5), 0, 0, 0, 1, 1, 3, 0, 0, 1, 1, 4, 0, 0, 2, 1);
        due.are("its own cylinder's, for all", Disks.ofAll(x, 8), 3, 3, 3, 3, 3, 8, 8, 8, 8, 8, 14, 14, 14, 14, 14);
        int[] nearer = {3, 4, 8, 9};
        for (int p : nearer) {
            x.harm(p, 2);
        }
        x.harm(0, 2);
        x.write(0);
        for (int p : nearer) {
            x.harm(p, 0);
        }
        due.is("place(0), far from its first one", x.place(0), 14);
        due.is("of(14, 8), the taken one", x.of(14, 8), 8);
        due.is("of(0, 8), the replaced one", x.of(0, 8), 3);
    }

    private static void ofRefuses(Due due) {
        SlippedPlaces x = everyUse();
        for (int place : Edges.outside(0, 5)) {
            for (int what = 0; what <= 8; what++) {
                due.is("of(" + place + ", " + what + ")", x.of(place, what), UNKNOWN);
            }
            due.refused("of(" + place + ", 8)", x, () -> x.of(place, 8), UNKNOWN);
            for (int what : Edges.outside(0, 8)) {
                due.is("of(" + place + ", " + what + "): unknown ahead of outside", x.of(place, what), UNKNOWN);
            }
        }
        for (int what : Edges.outside(0, 8)) {
            due.refused("of(0, " + what + ")", x, () -> x.of(0, what), OUTSIDE);
            due.refused("of(5, " + what + ")", x, () -> x.of(5, what), OUTSIDE);
        }
        SlippedPlaces none = new SlippedPlaces();
        due.refused("of(0, 9) without a disk", none, () -> none.of(0, 9), UNKNOWN);
        due.refused("of(0, -1) without a disk", none, () -> none.of(0, -1), UNKNOWN);
        SlippedPlaces greatest = Disks.withDisk("3;4x9,4x9,4x9");
        due.is("of(323, 4)", greatest.of(323, 4), 0);
        due.refused("of(324, 4)", greatest, () -> greatest.of(324, 4), UNKNOWN);
    }

    private static void placeOfAnAddress(Due due) {
        SlippedPlaces x = everyUse();
        due.are("place", Disks.places(x), 4, 2, 3);
        for (int address : Edges.outside(0, 2)) {
            due.refused("place(" + address + ")", x, () -> x.place(address), UNKNOWN);
        }
        SlippedPlaces y = Disks.withDisk("3;4x9,4x9,4x9", 0);
        due.is("place(323)", y.place(323), 323);
        due.refused("place(324)", y, () -> y.place(324), UNKNOWN);
        y.set(0, 1);
        y.format(false);
        due.is("place(320)", y.place(320), 322);
        due.refused("place(321) when there are fewer", y, () -> y.place(321), UNKNOWN);
        SlippedPlaces z = Disks.withDisk("1;1x4", 4);
        due.refused("place(0) without an address", z, () -> z.place(0), UNKNOWN);
    }

    private static void asAKind(Due due) {
        SlippedPlaces x = everyUse();
        for (int p = 0; p < 6; p++) {
            due.is("as(" + p + ", 0)", x.as(p, 0), p);
        }
        for (int p : new int[] {2, 3, 4}) {
            due.is("as(" + p + ", 1)", x.as(p, 1), p);
        }
        for (int p : new int[] {0, 1, 5}) {
            due.is("as(" + p + ", 2)", x.as(p, 2), p);
        }
        SlippedPlaces y = Disks.withDisk("3;4x9,4x9,4x9");
        due.is("as(323, 0)", y.as(323, 0), 323);
        due.is("as(323, 2)", y.as(323, 2), 323);
        due.is("as(322, 1)", y.as(322, 1), 322);
    }

    private static void noneSuch(Due due) {
        SlippedPlaces x = everyUse();
        long before = x.digest();
        for (int p : new int[] {0, 1, 5}) {
            due.is("as(" + p + ", 1)", x.as(p, 1), NONE);
        }
        for (int p : new int[] {2, 3, 4}) {
            due.is("as(" + p + ", 2)", x.as(p, 2), NONE);
        }
        due.is("digest() behind them", x.digest(), before);
        SlippedPlaces y = Disks.withDisk("1;1x4", 4);
        SlippedPlaces z = Disks.withDisk("1;1x4", 0);
        for (int p = 0; p < 4; p++) {
            due.is("no address at all: as(" + p + ", 1)", y.as(p, 1), NONE);
            due.is("addresses alone: as(" + p + ", 2)", z.as(p, 2), NONE);
        }
    }

    private static void asRefuses(Due due) {
        SlippedPlaces x = everyUse();
        SlippedPlaces none = new SlippedPlaces();
        for (int place : Edges.outside(0, 5)) {
            for (int kind = 0; kind <= 2; kind++) {
                int k = kind;
                due.refused("as(" + place + ", " + kind + ")", x, () -> x.as(place, k), UNKNOWN);
            }
            for (int kind : Edges.outside(0, 2)) {
                due.is("as(" + place + ", " + kind + "): unknown ahead of outside", x.as(place, kind), UNKNOWN);
            }
        }
        for (int kind : Edges.outside(0, 2)) {
            for (int p = 0; p < 6; p++) {
                int place = p;
                due.refused("as(" + p + ", " + kind + ")", x, () -> x.as(place, kind), OUTSIDE);
            }
            due.refused("as(0, " + kind + ") without a disk", none, () -> none.as(0, kind), UNKNOWN);
        }
    }

    private static void readAnswers(Due due) {
        SlippedPlaces x = everyUse();
        due.is("read(0), taken, good", x.read(0), 0);
        x.harm(4, 1);
        due.is("read(0), taken, weak", x.read(0), 1);
        x.harm(4, 2);
        due.is("read(0), taken, bad", x.read(0), 1);
        due.is("read(2), good", x.read(2), 0);
        x.harm(3, 1);
        due.is("read(2), weak", x.read(2), 1);
        x.harm(3, 2);
        due.is("read(2), bad", x.read(2), 1);
        x.harm(3, 0);
        due.is("read(2), good again", x.read(2), 0);
    }

    private static void refuseAddresses(Due due, String call, boolean writes) {
        SlippedPlaces x = everyUse();
        x.harm(2, 1);
        x.harm(5, 1);
        due.refuseAll(call, x, Edges.outside(0, 2), address -> writes ? x.write(address) : x.read(address), UNKNOWN);
        SlippedPlaces greatest = Disks.withDisk("3;4x9,4x9,4x9", 0);
        due.is(call + "(323)", writes ? greatest.write(323) : greatest.read(323), 0);
        due.refuseAll(call, greatest, new int[] {324}, address -> writes ? greatest.write(address) : greatest.read(address), UNKNOWN);
        greatest.set(0, 1);
        greatest.format(false);
        due.refuseAll(call, greatest, new int[] {321, 323}, address -> writes ? greatest.write(address) : greatest.read(address), UNKNOWN);
        SlippedPlaces none = Disks.withDisk("1;1x4", 4);
        none.harm(0, 2);
        due.refuseAll(call, none, new int[] {-1, 0, 3}, address -> writes ? none.write(address) : none.read(address), UNKNOWN);
    }

    private static void readRefuses(Due due) {
        refuseAddresses(due, "read", false);
    }

    private static void writeAnswers(Due due) {
        SlippedPlaces x = Disks.withDisk("1;1x5");
        due.is("write(0), good, a free one left", x.write(0), 0);
        x.harm(0, 1);
        due.is("write(0), weak, a free one left", x.write(0), 1);
        x.harm(0, 2);
        due.is("write(0), bad, a free one left", x.write(0), 2);
        due.is("write(0), taken, good", x.write(0), 0);
        x.harm(4, 1);
        due.is("write(0), taken, weak", x.write(0), 1);
        x.harm(4, 2);
        due.is("write(0), taken, bad, none left", x.write(0), 3);
        due.is("write(1), good, none left", x.write(1), 0);
        x.harm(1, 1);
        due.is("write(1), weak, none left", x.write(1), 1);
        x.harm(1, 2);
        due.is("write(1), bad, none left", x.write(1), 3);
        x.harm(1, 0);
        due.is("write(1), pending, good", x.write(1), 0);
    }

    private static void writeRefuses(Due due) {
        refuseAddresses(due, "write", true);
    }

    private static void theLeastFirst(Due due) {
        SlippedPlaces x = Disks.withDisk("1;1x9,1x9", 0);
        for (int p = 17; p >= 0; p--) {
            x.harm(p, 1);
            x.read(p);
            due.is("pending(0), the newest is the least", x.pending(0), p);
        }
        for (int i = 0; i < 18; i++) {
            due.is("pending(" + i + ")", x.pending(i), i);
        }
        x.write(0);
        x.write(17);
        x.write(9);
        due.are("pending", Disks.pendings(x), 1, 2, 3, 4, 5, 6, 7, 8, 10, 11, 12, 13, 14, 15, 16);
        SlippedPlaces y = Disks.withDisk("1;1x5");
        y.harm(3, 2);
        y.write(3);
        y.harm(4, 1);
        y.harm(2, 2);
        y.read(3);
        y.read(2);
        due.are("by addresses, not by places", Disks.pendings(y), 2, 3);
    }

    private static void notSoMany(Due due) {
        SlippedPlaces x = Disks.withDisk("1;1x4", 0);
        due.refused("pending(0), none", x, () -> x.pending(0), UNKNOWN);
        for (int p = 0; p < 4; p++) {
            x.harm(p, 2);
            x.read(p);
            due.is("pending(" + p + ")", x.pending(p), p);
            for (int place : Edges.outside(0, p)) {
                due.refused("pending(" + place + "), " + (p + 1) + " of them", x, () -> x.pending(place), UNKNOWN);
            }
        }
        x.format(true);
        due.refused("pending(0), no address", x, () -> x.pending(0), UNKNOWN);
    }
}
