/** Promises 9 to 14: of, place, as, read, write, pending. */
public final class PlacesTest {
    private static final Due due = new Due();
    private static final int NONE = -1, UNKNOWN = -1001, OUTSIDE = -1002;

    public static void main(String[] args) {
        placesLieByCylindersHeadsSectors();
        anglesGoBySkews();
        nearestIsByCylinderThenTheLeast();
        ofRefuses();
        placeOfAnAddress();
        asAKind();
        readFailsUnlessGood();
        writeHealsWhatIsWeak();
        writeReplacesWhatIsBad();
        writeFailsWithoutASpare();
        pendingOnesTheLeastFirst();
        due.end();
    }

    private static void placesLieByCylindersHeadsSectors() {
        SlippedPlaces x = Disks.withDisk("2;1x4,2x5");
        due.are("cylinder", Disks.ofAll(x, 0), 0, 0, 0, 0, 0, 0, 0, 0, 1, 1, 1, 1, 1, 1, 1, 1, 1, 1, 2, 2, 2, 2, 2, 2, 2, 2, 2, 2);
        due.are("head", Disks.ofAll(x, 1), 0, 0, 0, 0, 1, 1, 1, 1, 0, 0, 0, 0, 0, 1, 1, 1, 1, 1, 0, 0, 0, 0, 0, 1, 1, 1, 1, 1);
        due.are("sector", Disks.ofAll(x, 2), 0, 1, 2, 3, 0, 1, 2, 3, 0, 1, 2, 3, 4, 0, 1, 2, 3, 4, 0, 1, 2, 3, 4, 0, 1, 2, 3, 4);
        due.are("zone", Disks.ofAll(x, 3), 0, 0, 0, 0, 0, 0, 0, 0, 1, 1, 1, 1, 1, 1, 1, 1, 1, 1, 1, 1, 1, 1, 1, 1, 1, 1, 1, 1);
        due.is("a free one of zone 0", x.of(7, 5), 1);
        due.is("a free one of zone 1", x.of(27, 5), 1);
        due.is("address of place 8", x.of(8, 7), 7);
        due.is("address of a free one", x.of(7, 7), NONE);
    }

    private static void anglesGoBySkews() {
        SlippedPlaces x = Disks.withDisk("2;2x4");
        due.are("angle", Disks.ofAll(x, 6), 0, 630, 1260, 1890, 0, 630, 1260, 1890, 0, 630, 1260, 1890, 0, 630, 1260, 1890);
        x.set(1, 1);
        due.are("by head skew 1", Disks.ofAll(x, 6), 0, 630, 1260, 1890, 630, 1260, 1890, 0, 0, 630, 1260, 1890, 630, 1260, 1890, 0);
        x.set(2, 6);
        due.are("by cylinder skew 6 too", Disks.ofAll(x, 6),
            0, 630, 1260, 1890, 630, 1260, 1890, 0, 1260, 1890, 0, 630, 1890, 0, 630, 1260);
        int[] sectors = {4, 5, 6, 7, 8, 9};
        int[] steps = {630, 504, 420, 360, 315, 280};
        for (int i = 0; i < sectors.length; i++) {
            SlippedPlaces y = Disks.withDisk("1;1x" + sectors[i]);
            due.is("angle of the last of " + sectors[i], y.of(sectors[i] - 1, 6), 2520 - steps[i]);
            due.is("ticks of one of " + sectors[i], y.ticks(0, 1), steps[i]);
        }
        SlippedPlaces z = Disks.withDisk("3;1x9,2x7");
        z.set(1, 8);
        z.set(2, 8);
        due.is("cylinders count over all zones", z.of(27 + 2 * 21 - 1, 6), (6 + 8 * 2 + 8 * 2) % 7 * 360);
    }

    private static void nearestIsByCylinderThenTheLeast() {
        SlippedPlaces x = Disks.withDisk("1;2x4,1x4,2x4", 2);
        // the free ones: 6, 7 (cylinder 1), 10, 11 (cylinder 2), 18, 19 (cylinder 4)
        due.are("nearest", Disks.ofAll(x, 8), 6, 6, 6, 6, 6, 6, 6, 6, 10, 10, 10, 10, 10, 10, 10, 10, 18, 18, 18, 18);
        x.harm(10, 1);
        due.is("a weak one will do", x.of(8, 8), 10);
        x.harm(10, 2);
        due.is("a bad one will not", x.of(8, 8), 11);
        due.is("not even for itself", x.of(10, 8), 11);
        x.harm(11, 2);
        due.is("of like ones the least", x.of(8, 8), 6);
        due.is("cylinder 3", x.of(12, 8), 18);
        x.harm(6, 2);
        x.harm(7, 2);
        due.is("another zone's will do", x.of(0, 8), 18);
        x.harm(18, 2);
        due.is("the last of them", x.of(0, 8), 19);
        x.harm(19, 2);
        due.is("none is left", x.of(0, 8), NONE);
        due.is("they are free ones still", x.count(5), 6);
        due.are("place 0 can be one", Disks.ofAll(Disks.withDisk("1;1x4", 4), 8), 0, 0, 0, 0);
    }

    private static void ofRefuses() {
        SlippedPlaces x = Disks.withDisk("1;1x4");
        due.is("of(4, 0)", x.of(4, 0), UNKNOWN);
        due.is("of(-1, 0)", x.of(-1, 0), UNKNOWN);
        due.is("of(0, 9)", x.of(0, 9), OUTSIDE);
        due.is("of(0, -1)", x.of(0, -1), OUTSIDE);
        due.is("of(4, 9): the first refusal", x.of(4, 9), UNKNOWN);
        due.is("of(least, least)", x.of(Integer.MIN_VALUE, Integer.MIN_VALUE), UNKNOWN);
        due.is("of(most, most)", x.of(Integer.MAX_VALUE, Integer.MAX_VALUE), UNKNOWN);
    }

    private static void placeOfAnAddress() {
        SlippedPlaces x = Disks.withDisk("1;1x4,1x4");
        due.are("place", Disks.places(x), 0, 1, 2, 4, 5, 6);
        due.is("place(6)", x.place(6), UNKNOWN);
        due.is("place(-1)", x.place(-1), UNKNOWN);
        due.is("place(most)", x.place(Integer.MAX_VALUE), UNKNOWN);
        due.is("place(least)", x.place(Integer.MIN_VALUE), UNKNOWN);
    }

    private static void asAKind() {
        SlippedPlaces x = Disks.withDisk("1;1x6", 2);
        x.harm(0, 2);
        x.format(true);
        x.harm(1, 2);
        x.write(0);
        due.are("what each is for", Disks.ofAll(x, 5), 3, 4, 0, 0, 2, 1);
        int[] addressed = {2, 3, 4};
        int[] others = {0, 1, 5};
        for (int p : addressed) {
            due.is("as(" + p + ", 0)", x.as(p, 0), p);
            due.is("as(" + p + ", 1)", x.as(p, 1), p);
            due.is("as(" + p + ", 2)", x.as(p, 2), NONE);
        }
        for (int p : others) {
            due.is("as(" + p + ", 0)", x.as(p, 0), p);
            due.is("as(" + p + ", 1)", x.as(p, 1), NONE);
            due.is("as(" + p + ", 2)", x.as(p, 2), p);
        }
        due.is("as(6, 0)", x.as(6, 0), UNKNOWN);
        due.is("as(-1, 0)", x.as(-1, 0), UNKNOWN);
        due.is("as(0, 3)", x.as(0, 3), OUTSIDE);
        due.is("as(0, -1)", x.as(0, -1), OUTSIDE);
        due.is("as(6, 3): the first refusal", x.as(6, 3), UNKNOWN);
    }

    private static void readFailsUnlessGood() {
        SlippedPlaces x = Disks.withDisk("1;1x6");
        due.is("read(0)", x.read(0), 0);
        x.harm(1, 1);
        x.harm(2, 2);
        due.is("read(1), weak", x.read(1), 1);
        due.is("read(2), bad", x.read(2), 1);
        due.is("read(2) again", x.read(2), 1);
        due.are("pending", Disks.pendings(x), 1, 2);
        due.are("reading mends nothing", Disks.ofAll(x, 4), 0, 1, 2, 0, 0, 0);
        x.harm(1, 0);
        due.is("read(1), good again", x.read(1), 0);
        due.are("it is pending as it was", Disks.pendings(x), 1, 2);
        long before = x.digest();
        due.is("read(5)", x.read(5), UNKNOWN);
        due.is("read(-1)", x.read(-1), UNKNOWN);
        due.is("read(most)", x.read(Integer.MAX_VALUE), UNKNOWN);
        due.is("digest after refusals", x.digest(), before);
    }

    private static void writeHealsWhatIsWeak() {
        SlippedPlaces x = Disks.withDisk("1;1x5");
        due.is("write(0)", x.write(0), 0);
        x.harm(1, 1);
        x.read(1);
        due.is("write(1)", x.write(1), 1);
        due.is("of(1, 4)", x.of(1, 4), 0);
        due.is("pending", x.count(7), 0);
        due.is("write(1) again", x.write(1), 0);
        x.harm(2, 1);
        x.read(2);
        x.harm(2, 0);
        due.is("pending though good", x.pending(0), 2);
        due.is("write(2)", x.write(2), 0);
        due.is("pending then", x.count(7), 0);
        long before = x.digest();
        due.is("write(4)", x.write(4), UNKNOWN);
        due.is("write(-1)", x.write(-1), UNKNOWN);
        due.is("write(least)", x.write(Integer.MIN_VALUE), UNKNOWN);
        due.is("digest after refusals", x.digest(), before);
    }

    private static void writeReplacesWhatIsBad() {
        SlippedPlaces x = Disks.withDisk("1;1x4,1x4,1x4");
        // the free ones: 3 (cylinder 0), 7 (cylinder 1), 11 (cylinder 2)
        x.harm(4, 2);
        x.harm(7, 1);
        x.read(3);
        due.is("write(3)", x.write(3), 2);
        due.is("place(3)", x.place(3), 7);
        due.is("the spare is good again", x.of(7, 4), 0);
        due.is("the spare is taken", x.of(7, 5), 2);
        due.is("the spare's address", x.of(7, 7), 3);
        due.is("the old place is bad still", x.of(4, 4), 2);
        due.is("the old place is replaced", x.of(4, 5), 4);
        due.is("the old place has no address", x.of(4, 7), NONE);
        due.is("pending", x.count(7), 0);
        due.are("count", Disks.counts(x), 0, 12, 9, 0, 1, 2, 1, 0, 1, 0, 0, 200, 300, 0, 1);
        x.harm(4, 0);
        due.is("the old place stays replaced", x.of(4, 5), 4);
        x.harm(8, 2);
        due.is("write(6)", x.write(6), 2);
        due.is("place(6)", x.place(6), 11);
        x.harm(11, 2);
        due.is("read(6)", x.read(6), 1);
        due.is("write(6) whose spare went bad", x.write(6), 2);
        due.is("place(6) then", x.place(6), 3);
        due.is("a taken one can be replaced", x.of(11, 5), 4);
        due.is("pending then", x.count(7), 0);
        due.is("addresses are as many", x.count(2), 9);
        x.harm(3, 1);
        due.is("write(6), weak", x.write(6), 1);
        due.is("it stays taken", x.of(3, 5), 2);
    }

    private static void writeFailsWithoutASpare() {
        SlippedPlaces x = Disks.withDisk("1;1x4");
        x.harm(3, 2);
        x.harm(1, 2);
        due.is("write(1)", x.write(1), 3);
        due.is("pending(0)", x.pending(0), 1);
        due.is("place(1)", x.place(1), 1);
        due.is("of(1, 5)", x.of(1, 5), 0);
        due.is("of(1, 4)", x.of(1, 4), 2);
        due.is("write(1) again", x.write(1), 3);
        due.is("pending", x.count(7), 1);
        x.harm(3, 0);
        due.is("write(1) with a spare", x.write(1), 2);
        due.is("pending then", x.count(7), 0);
        due.is("place(1) then", x.place(1), 3);
    }

    private static void pendingOnesTheLeastFirst() {
        SlippedPlaces x = Disks.withDisk("1;1x9", 0);
        for (int p = 0; p < 9; p++) {
            x.harm(p, 1);
        }
        x.read(8);
        x.read(0);
        x.read(4);
        due.are("pending", Disks.pendings(x), 0, 4, 8);
        due.is("pending(3)", x.pending(3), UNKNOWN);
        due.is("pending(-1)", x.pending(-1), UNKNOWN);
        due.is("pending(most)", x.pending(Integer.MAX_VALUE), UNKNOWN);
        due.is("pending(least)", x.pending(Integer.MIN_VALUE), UNKNOWN);
        x.write(4);
        due.are("pending then", Disks.pendings(x), 0, 8);
        x.write(0);
        due.are("and then", Disks.pendings(x), 8);
    }
}
