/** Promises 1 to 5: a new object, letter, blank, fault, disk. */
public final class TextsTest {
    private static final Due due = new Due();
    private static final int UNKNOWN = -1001, OUTSIDE = -1002, STATE = -1003, FULL = -1004;

    public static void main(String[] args) {
        aNewObjectHasNoDisk();
        lettersComeBehindThePage();
        blankEmptiesThePage();
        faultIsTheFirstLetterThatNoDiskHas();
        diskReadsThePage();
        diskRefusesWhatIsNone();
        anotherDiskTakesThePlaceOfTheFirst();
        due.end();
    }

    private static void aNewObjectHasNoDisk() {
        SlippedPlaces x = new SlippedPlaces();
        due.are("count", Disks.counts(x), 0, 0, 0, 0, 0, 0, 0, 0, 1, 0, 0, 200, 300, 0, 0);
        due.is("harm(0, 0)", x.harm(0, 0), UNKNOWN);
        due.is("format(false)", x.format(false), STATE);
        due.is("format(true)", x.format(true), STATE);
        due.is("of(0, 0)", x.of(0, 0), UNKNOWN);
        due.is("place(0)", x.place(0), UNKNOWN);
        due.is("as(0, 0)", x.as(0, 0), UNKNOWN);
        due.is("read(0)", x.read(0), UNKNOWN);
        due.is("write(0)", x.write(0), UNKNOWN);
        due.is("pending(0)", x.pending(0), UNKNOWN);
        due.is("runs(0)", x.runs(0), STATE);
        due.is("ticks(0, 1)", x.ticks(0, 1), UNKNOWN);
        due.is("rate(0, 1)", x.rate(0, 1), UNKNOWN);
        due.is("mean()", x.mean(), STATE);
        due.is("skew(1)", x.skew(1), STATE);
        due.is("count(13) after refusals", x.count(13), 0);
        due.is("fault()", x.fault(), 0);
        due.is("disk()", x.disk(), STATE);
        due.is("blank()", x.blank(), 0);
    }

    private static void lettersComeBehindThePage() {
        SlippedPlaces x = new SlippedPlaces();
        due.is("letter(31)", x.letter(31), OUTSIDE);
        due.is("letter(127)", x.letter(127), OUTSIDE);
        due.is("letter(-1)", x.letter(-1), OUTSIDE);
        due.is("letter(least)", x.letter(Integer.MIN_VALUE), OUTSIDE);
        due.is("letter(most)", x.letter(Integer.MAX_VALUE), OUTSIDE);
        due.is("letters after refusals", x.count(0), 0);
        due.is("letter(32)", x.letter(32), 1);
        due.is("letter(126)", x.letter(126), 2);
        for (int n = 3; n <= 13; n++) {
            due.is("letter(65)", x.letter(65), n);
        }
        due.is("a fourteenth letter", x.letter(65), FULL);
        due.is("a fourteenth letter that is none", x.letter(31), OUTSIDE);
        due.is("letters", x.count(0), 13);
    }

    private static void blankEmptiesThePage() {
        SlippedPlaces x = Disks.withPage("2;1");
        due.is("blank()", x.blank(), 3);
        due.is("blank() again", x.blank(), 0);
        due.is("letters", x.count(0), 0);
        due.is("letter behind an empty page", x.letter('3'), 1);
        due.is("fault()", x.fault(), 1);
    }

    private static void faultIsTheFirstLetterThatNoDiskHas() {
        String[] pages = {"", "1", "3", "0", "4", " ", "1;", "1:", "1,", "1;1", "1;4", "1;0", "1;5", "1;1x", "1;1X", "1;1;",
            "1;1x4", "1;1x9", "1;1x3", "1;1x:", "1;1x4,", "1;1x4;", "1;1x44", "1;1x4,4", "1;1x4,5", "1;1x4,1x", "1;1x4,1x9",
            "1;1x4,1x3", "1;1x4,1x9,", "1;1x4,1x9,1x4", "1;1x4,1x9,0x4", "1;1x4,1x9,1x3", "1;1x4,,x9", "x;1x4", "4;9x9", "1;1x4 1x4"};
        int[] faults = {0, 1, 1, 0, 0, 0, 2, 1, 1, 3, 3, 2, 2, 4, 3, 3,
            5, 5, 4, 4, 6, 5, 5, 7, 6, 8, 9,
            8, 10, 13, 10, 12, 6, 0, 0, 5};
        due.is("cases", pages.length, faults.length);
        for (int i = 0; i < pages.length; i++) {
            SlippedPlaces x = Disks.withPage(pages[i]);
            due.is("fault() of '" + pages[i] + "'", x.fault(), faults[i]);
            due.is("letters after fault()", x.count(0), pages[i].length());
        }
    }

    private static void diskReadsThePage() {
        String[] pages = {"1;1x4", "3;4x9", "2;2x4,1x6", "3;4x9,2x5,3x7", "3;4x9,4x9,4x9", "1;1x9,1x8,1x7"};
        int[] places = {4, 108, 28, 201, 324, 24};
        for (int i = 0; i < pages.length; i++) {
            SlippedPlaces x = Disks.withPage(pages[i]);
            due.is("disk() of " + pages[i], x.disk(), places[i]);
            due.is("letters then", x.count(0), 0);
            due.is("places then", x.count(1), places[i]);
            due.is("addresses then", x.count(2), places[i] - (pages[i].length() - 1) / 4);
            due.is("formats then", x.count(13), 0);
            due.is("disks then", x.count(14), 1);
        }
    }

    private static void diskRefusesWhatIsNone() {
        String[] pages = {"", "1", "1;", "1;1", "1;1x", "1;1x4,", "1;1x4,1", "1;1x4,1x", "1;1x4,1x4,", "1;1x4,1x4,1", "1;1x4,1x4,1x",
            "1;1x3", "0;1x4", "1;1x4,1x3", "1;1x4,1x4,1x3", "1;1x4;1x4", "1;1x4,5x4"};
        for (String page : pages) {
            SlippedPlaces x = Disks.withDisk("2;1x5");
            x.harm(3, 2);
            Disks.type(x, page);
            long before = x.digest();
            due.is("disk() of '" + page + "'", x.disk(), STATE);
            due.is("digest after the refusal", x.digest(), before);
            due.is("letters after the refusal", x.count(0), page.length());
        }
    }

    private static void anotherDiskTakesThePlaceOfTheFirst() {
        SlippedPlaces x = Disks.withDisk("2;1x5,1x5", 2);
        x.set(1, 3);
        x.set(2, 4);
        x.set(3, 5);
        x.set(4, 6);
        x.harm(0, 2);
        x.harm(1, 1);
        x.harm(2, 2);
        x.read(1);
        x.write(0);
        x.format(true);
        x.harm(5, 2);
        x.read(2);
        Disks.type(x, "1;2x6");
        due.is("disk()", x.disk(), 12);
        due.are("how each place is", Disks.ofAll(x, 4), 0, 0, 0, 0, 0, 0, 0, 0, 0, 0, 0, 0);
        due.are("what each is for", Disks.ofAll(x, 5), 0, 0, 0, 0, 0, 0, 0, 0, 0, 0, 1, 1);
        due.are("its address", Disks.ofAll(x, 7), 0, 1, 2, 3, 4, 5, 6, 7, 8, 9, -1, -1);
        due.are("count", Disks.counts(x), 0, 12, 10, 0, 0, 2, 0, 0, 2, 3, 4, 5, 6, 1, 2);
        due.is("of(12, 0)", x.of(12, 0), UNKNOWN);
        due.is("place(10)", x.place(10), UNKNOWN);
    }
}
