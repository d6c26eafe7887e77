/** The boundary cases of "What it is" and of promises 1 to 5, a test for each sentence. */
public final class BoundsOfTextsTest {
    private static final int UNKNOWN = -1001, OUTSIDE = -1002, STATE = -1003, FULL = -1004;
    private static final String FULL_PAGE = "1;1x4,1x4,1x4";
    /** What a DISK can have at each place of its text. */
    private static final String[] FITTING = {"123", ";", "1234", "x", "456789", ",", "1234", "x", "456789", ",", "1234", "x", "456789"};

    public static void main(String[] args) {
        Sentences s = new Sentences();
        all(s);
        s.end();
    }

    static void all(Sentences s) {
        s.holds("What it is", "a digit, HEADS (1 to 3)", BoundsOfTextsTest::heads);
        s.holds("What it is", "one to three ZONES (numbered from 0) with \",\" between", BoundsOfTextsTest::zones);
        s.holds("What it is", "how many CYLINDERS (1 to 4)", BoundsOfTextsTest::cylinders);
        s.holds("What it is", "SECTORS (4 to 9, how many a TRACK has)", BoundsOfTextsTest::sectors);
        s.holds("What it is", "An object is used for at most 512 calls after it has been made", BoundsOfTextsTest::theLastCall);
        s.holds("Promise 1", "No DISK.", BoundsOfTextsTest::aNewObject);
        s.holds("Promise 2", "A letter comes behind THE PAGE, told by its code: how many THE PAGE has.", BoundsOfTextsTest::letters);
        s.holds("Promise 2", "OUTSIDE: code (32 to 126)", BoundsOfTextsTest::codes);
        s.holds("Promise 2", "FULL: above 13", BoundsOfTextsTest::fullPage);
        s.holds("Promise 2", "OUTSIDE: code (32 to 126); FULL: above 13", BoundsOfTextsTest::outsideAheadOfFull);
        s.holds("Promise 3", "THE PAGE is empty", BoundsOfTextsTest::blankedPages);
        s.holds("Promise 3", "how many letters it had", BoundsOfTextsTest::lettersItHad);
        s.holds("Promise 4", "The place (from 0) of the first letter of THE PAGE that no DISK has there", BoundsOfTextsTest::faults);
        s.holds("Promise 4", "behind those ahead of it", BoundsOfTextsTest::faultsBehindFaults);
        s.holds("Promise 4", "how many letters it has, if there is none", BoundsOfTextsTest::noFault);
        s.holds("Promise 5", "how many PLACES", BoundsOfTextsTest::leastAndGreatestDisk);
        s.holds("Promise 5", "another one is gone", BoundsOfTextsTest::anotherDisk);
        s.holds("Promise 5", "SPARES, SKEWS, TICKS stay", BoundsOfTextsTest::settingsStay);
        s.holds("Promise 5", "THE PAGE is empty then", BoundsOfTextsTest::pageIsEmptyThen);
        s.holds("Promise 5", "STATE: it is none", BoundsOfTextsTest::noDiskToRead);
    }

    private static void refusePages(Due due, String... pages) {
        for (String page : pages) {
            SlippedPlaces x = Disks.withDisk("2;1x5");
            x.harm(3, 2);
            x.read(3);
            Disks.type(x, page);
            due.refused("disk() of '" + page + "'", x, x::disk, STATE);
            due.is("letters of '" + page + "' behind the refusal", x.count(0), page.length());
        }
    }

    private static void heads(Due due) {
        for (int heads = 1; heads <= 3; heads++) {
            SlippedPlaces x = Disks.withPage(heads + ";2x4");
            due.is("fault() of " + heads + " heads", x.fault(), 5);
            due.is("disk() of " + heads + " heads", x.disk(), 8 * heads);
            due.is("the last place's head", x.of(8 * heads - 1, 1), heads - 1);
            due.is("the last place's cylinder", x.of(8 * heads - 1, 0), 1);
            due.is("a place behind the last", x.of(8 * heads, 1), UNKNOWN);
        }
        String[] wrong = {"0", "4", "9", "/", ":", " ", "~", "x", ";"};
        for (String sign : wrong) {
            due.is("fault() of '" + sign + "' heads", Disks.withPage(sign + ";2x4").fault(), 0);
            refusePages(due, sign + ";2x4");
        }
        refusePages(due, ";2x4", "11;2x4", "-1;2x4");
    }

    private static void zones(Due due) {
        String[] pages = {"1;1x4", "1;1x4,1x5", "1;1x4,1x5,1x6"};
        int[] places = {4, 9, 15};
        for (int i = 0; i < pages.length; i++) {
            SlippedPlaces x = Disks.withPage(pages[i]);
            due.is("disk() of " + pages[i], x.disk(), places[i]);
            due.is("the first place's zone", x.of(0, 3), 0);
            due.is("the last place's zone", x.of(places[i] - 1, 3), i);
            due.is("free ones, one of each zone", x.count(5), i + 1);
        }
        SlippedPlaces x = Disks.withDisk("1;1x4,1x5,1x6");
        due.are("zone of each place", Disks.ofAll(x, 3), 0, 0, 0, 0, 1, 1, 1, 1, 1, 2, 2, 2, 2, 2, 2);
        refusePages(due, "1;", "1", "1;,1x4", "1;1x4,", "1;1x4,1x4,", "1;1x41x4", "1;1x4;1x4", "1;1x4,,1x4", "1;1x4.1x4", "1,1x4");
        SlippedPlaces y = Disks.withPage("1;1x4,1x5,1x6");
        due.refused("letter(',') for a fourth zone", y, () -> y.letter(','), FULL);
        due.is("disk() of the three", y.disk(), 15);
    }

    private static final String[] ZONE_HEADS = {"1;", "1;1x4,", "1;1x4,1x4,"};

    private static void cylinders(Due due) {
        for (int zone = 0; zone < 3; zone++) {
            for (int cylinders = 1; cylinders <= 4; cylinders++) {
                SlippedPlaces x = Disks.withPage(ZONE_HEADS[zone] + cylinders + "x5");
                due.is("fault() of " + cylinders + " cylinders in zone " + zone, x.fault(), 5 + 4 * zone);
                int places = 4 * zone + 5 * cylinders;
                due.is("disk() of " + cylinders + " cylinders in zone " + zone, x.disk(), places);
                due.is("the last place's cylinder", x.of(places - 1, 0), zone + cylinders - 1);
            }
            for (String sign : new String[] {"0", "5", "9", "/", ":", " ", "x", ","}) {
                String page = ZONE_HEADS[zone] + sign + "x5";
                due.is("fault() of '" + page + "'", Disks.withPage(page).fault(), 2 + 4 * zone);
                refusePages(due, page);
            }
        }
    }

    private static void sectors(Due due) {
        for (int zone = 0; zone < 3; zone++) {
            for (int sectors = 4; sectors <= 9; sectors++) {
                SlippedPlaces x = Disks.withPage(ZONE_HEADS[zone] + "1x" + sectors);
                due.is("fault() of " + sectors + " sectors in zone " + zone, x.fault(), 5 + 4 * zone);
                int places = 4 * zone + sectors;
                due.is("disk() of " + sectors + " sectors in zone " + zone, x.disk(), places);
                due.is("the last place's sector", x.of(places - 1, 2), sectors - 1);
                due.is("the track's first place's sector", x.of(4 * zone, 2), 0);
            }
            for (String sign : new String[] {"3", "0", "1", ":", "/", " ", "x", ","}) {
                String page = ZONE_HEADS[zone] + "1x" + sign;
                due.is("fault() of '" + page + "'", Disks.withPage(page).fault(), 4 + 4 * zone);
                refusePages(due, page);
            }
        }
    }

    private static void theLastCall(Due due) {
        manyLetters(due);
        manyFormats(due);
        manyDisks(due);
        manyWrites(due);
    }

    private static void manyLetters(Due due) {
        SlippedPlaces x = new SlippedPlaces();
        for (int call = 1; call <= 512; call++) {
            due.is("letter(65), call " + call, x.letter(65), call <= 13 ? call : FULL);
        }
    }

    private static void manyFormats(Due due) {
        SlippedPlaces x = Disks.withDisk("3;4x9,4x9,4x9"); // 14 calls
        for (int call = 15; call <= 511; call++) {
            due.is("format, call " + call, x.format(call % 2 == 0), 321);
        }
        due.is("count(13), call 512", x.count(13), 497);
    }

    private static void manyDisks(Due due) {
        SlippedPlaces x = new SlippedPlaces();
        Model m = new Model();
        for (int disk = 1; disk <= 85; disk++) {
            String page = disk % 3 + 1 + ";1x" + (4 + disk % 6);
            for (char c : page.toCharArray()) {
                due.is("letter of disk " + disk, x.letter(c), m.letter(c));
            }
            due.is("disk() " + disk, x.disk(), m.disk());
        }
        due.is("count(14), call 511", x.count(14), 85);
        due.is("digest(), call 512", x.digest(), m.digest());
    }

    private static void manyWrites(Due due) {
        SlippedPlaces x = Disks.withDisk("1;1x4"); // 6 calls
        for (int call = 7; call < 511; call += 2) {
            due.is("harm(2, 1), call " + call, x.harm(2, 1), 0);
            due.is("write(2), call " + (call + 1), x.write(2), 1);
        }
        due.is("harm(2, 2), call 511", x.harm(2, 2), 0);
        due.is("write(2), call 512", x.write(2), 2);
    }

    private static void aNewObject(Due due) {
        SlippedPlaces x = new SlippedPlaces();
        due.are("count", Disks.counts(x), 0, 0, 0, 0, 0, 0, 0, 0, 1, 0, 0, 200, 300, 0, 0);
        due.refused("disk()", x, x::disk, STATE);
        due.refused("format(false)", x, () -> x.format(false), STATE);
        due.refused("format(true)", x, () -> x.format(true), STATE);
        due.refused("mean()", x, x::mean, STATE);
        for (int number : new int[] {Integer.MIN_VALUE, -1, 0, 1, Integer.MAX_VALUE}) {
            due.refused("harm(" + number + ", 0)", x, () -> x.harm(number, 0), UNKNOWN);
            due.refused("of(" + number + ", 0)", x, () -> x.of(number, 0), UNKNOWN);
            due.refused("place(" + number + ")", x, () -> x.place(number), UNKNOWN);
            due.refused("as(" + number + ", 0)", x, () -> x.as(number, 0), UNKNOWN);
            due.refused("read(" + number + ")", x, () -> x.read(number), UNKNOWN);
            due.refused("write(" + number + ")", x, () -> x.write(number), UNKNOWN);
            due.refused("pending(" + number + ")", x, () -> x.pending(number), UNKNOWN);
            due.refused("ticks(" + number + ", 1)", x, () -> x.ticks(number, 1), UNKNOWN);
            due.refused("rate(" + number + ", 1)", x, () -> x.rate(number, 1), UNKNOWN);
        }
        for (int what = 0; what <= 2; what++) {
            int w = what;
            due.refused("runs(" + what + ")", x, () -> x.runs(w), STATE);
        }
        due.refused("skew(1)", x, () -> x.skew(1), STATE);
        due.refused("skew(2)", x, () -> x.skew(2), STATE);
        due.is("fault()", x.fault(), 0);
        due.is("blank()", x.blank(), 0);
    }

    private static void letters(Due due) {
        SlippedPlaces x = new SlippedPlaces();
        for (int n = 1; n <= 13; n++) {
            due.is("letter " + n, x.letter(FULL_PAGE.charAt(n - 1)), n);
            due.is("count(0) behind letter " + n, x.count(0), n);
            due.is("fault(): each came behind the others", x.fault(), n);
        }
        due.is("disk()", x.disk(), 12);
        due.is("a letter on an empty page", x.letter('1'), 1);
        due.is("blank()", x.blank(), 1);
        due.is("a letter on a page that was blanked", x.letter('1'), 1);
    }

    private static void codes(Due due) {
        for (int code = 32; code <= 126; code++) {
            SlippedPlaces x = new SlippedPlaces();
            due.is("letter(" + code + ")", x.letter(code), 1);
        }
        SlippedPlaces x = Disks.withPage("1;");
        for (int code : Edges.outside(32, 126)) {
            due.refused("letter(" + code + ")", x, () -> x.letter(code), OUTSIDE);
        }
        for (int code : new int[] {-1, 0, 10, 128, 255, 256 + '1', 65536 + '1'}) {
            due.refused("letter(" + code + ")", x, () -> x.letter(code), OUTSIDE);
        }
        due.is("a letter then", x.letter('1'), 3);
    }

    private static void fullPage(Due due) {
        SlippedPlaces x = Disks.withPage(FULL_PAGE.substring(0, 12));
        due.is("letter 13", x.letter('4'), 13);
        for (int code : new int[] {32, '4', ',', 126}) {
            due.refused("letter(" + code + "), the 14th", x, () -> x.letter(code), FULL);
        }
        due.is("fault()", x.fault(), 13);
        due.is("disk() of the 13", x.disk(), 12);
        due.is("a letter then", x.letter('4'), 1);
    }

    private static void outsideAheadOfFull(Due due) {
        SlippedPlaces x = Disks.withPage(FULL_PAGE);
        for (int code : Edges.outside(32, 126)) {
            due.refused("letter(" + code + ") on a full page", x, () -> x.letter(code), OUTSIDE);
        }
    }

    private static void blankedPages(Due due) {
        for (int letters = 0; letters <= 13; letters++) {
            SlippedPlaces x = Disks.withPage(FULL_PAGE.substring(0, letters));
            x.blank();
            due.is("count(0) behind blank()", x.count(0), 0);
            due.is("fault() behind blank()", x.fault(), 0);
            due.is("digest() as of a new object", x.digest(), new SlippedPlaces().digest());
            due.refused("disk() behind blank()", x, x::disk, STATE);
        }
        SlippedPlaces y = Disks.withDisk("1;1x4");
        long before = y.digest();
        Disks.type(y, "1;2x4");
        y.blank();
        due.is("blank() leaves the disk", y.digest(), before);
    }

    private static void lettersItHad(Due due) {
        for (int letters = 0; letters <= 13; letters++) {
            SlippedPlaces x = Disks.withPage(FULL_PAGE.substring(0, letters));
            due.is("blank() of " + letters + " letters", x.blank(), letters);
            due.is("blank() again", x.blank(), 0);
            Disks.type(x, FULL_PAGE);
            x.letter('1');
            due.is("blank() of a page filled again", x.blank(), 13);
        }
    }

    private static void faults(Due due) {
        for (int at = 0; at < 13; at++) {
            for (int code = 32; code <= 126; code++) {
                SlippedPlaces x = Disks.withPage(FULL_PAGE.substring(0, at));
                x.letter(code);
                boolean fits = FITTING[at].indexOf(code) >= 0;
                due.is("fault() with " + code + " at " + at, x.fault(), fits ? at + 1 : at);
            }
        }
    }

    private static void faultsBehindFaults(Due due) {
        for (int at = 0; at < 13; at++) {
            SlippedPlaces x = Disks.withPage(FULL_PAGE.substring(0, at));
            x.letter('z');
            for (int more = at + 1; more < 13; more++) {
                x.letter(more % 2 == 0 ? 'z' : FULL_PAGE.charAt(more));
                due.is("fault() with the first at " + at + ", " + (more + 1) + " letters", x.fault(), at);
            }
            due.refused("disk() with the first at " + at, x, x::disk, STATE);
        }
        due.is("fault() of '4;5x3'", Disks.withPage("4;5x3").fault(), 0);
        due.is("fault() of '3;5x3'", Disks.withPage("3;5x3").fault(), 2);
        due.is("fault() of '3;4x3'", Disks.withPage("3;4x3").fault(), 4);
    }

    private static void noFault(Due due) {
        due.is("fault() of an empty page", new SlippedPlaces().fault(), 0);
        String[] pages = {FULL_PAGE, "3;4x9,4x9,4x9"};
        for (String page : pages) {
            for (int letters = 0; letters <= 13; letters++) {
                SlippedPlaces x = Disks.withPage(page.substring(0, letters));
                long before = x.digest();
                due.is("fault() of the first " + letters + " of " + page, x.fault(), letters);
                due.is("fault() changes nothing", x.digest(), before);
            }
        }
        SlippedPlaces y = Disks.withDisk("1;1x4");
        due.is("fault() behind disk()", y.fault(), 0);
    }

    private static void leastAndGreatestDisk(Due due) {
        SlippedPlaces least = Disks.withPage("1;1x4");
        due.is("disk() of the least", least.disk(), 4);
        due.is("of(3, 2)", least.of(3, 2), 3);
        due.is("of(4, 2)", least.of(4, 2), UNKNOWN);
        SlippedPlaces greatest = Disks.withPage("3;4x9,4x9,4x9");
        due.is("disk() of the greatest", greatest.disk(), 324);
        due.is("of(323, 0)", greatest.of(323, 0), 11);
        due.is("of(323, 1)", greatest.of(323, 1), 2);
        due.is("of(323, 2)", greatest.of(323, 2), 8);
        due.is("of(323, 3)", greatest.of(323, 3), 2);
        due.is("of(324, 0)", greatest.of(324, 0), UNKNOWN);
    }

    private static void anotherDisk(Due due) {
        SlippedPlaces x = Disks.withDisk("3;4x9,4x9,4x9");
        x.harm(0, 2);
        x.harm(1, 1);
        x.harm(2, 2);
        x.write(0);
        x.read(1);
        x.format(true);
        x.harm(3, 2);
        x.write(0);
        x.harm(4, 1);
        x.read(1);
        Disks.type(x, "1;1x4");
        due.is("disk() of a smaller one", x.disk(), 4);
        due.are("how each place is", Disks.ofAll(x, 4), 0, 0, 0, 0);
        due.are("what each is for", Disks.ofAll(x, 5), 0, 0, 0, 1);
        due.are("its address", Disks.ofAll(x, 7), 0, 1, 2, -1);
        due.are("count", Disks.counts(x), 0, 4, 3, 0, 0, 1, 0, 0, 1, 0, 0, 200, 300, 1, 2);
        due.is("of(4, 0)", x.of(4, 0), UNKNOWN);
        due.is("place(3)", x.place(3), UNKNOWN);
        Disks.type(x, "1;1x5");
        due.is("disk() of a greater one", x.disk(), 5);
        due.are("how each place is then", Disks.ofAll(x, 4), 0, 0, 0, 0, 0);
        due.are("what each is for then", Disks.ofAll(x, 5), 0, 0, 0, 0, 1);
        due.are("sector of each then", Disks.ofAll(x, 2), 0, 1, 2, 3, 4);
    }

    private static void settingsStay(Due due) {
        int[] most = {4, 8, 8, 999, 999};
        SlippedPlaces x = Disks.withDisk("1;1x5");
        for (int what = 0; what < 5; what++) {
            x.set(what, most[what]);
        }
        Disks.type(x, "1;1x6");
        x.disk();
        for (int what = 0; what < 5; what++) {
            due.is("count(" + (8 + what) + ") at its most", x.count(8 + what), most[what]);
            x.set(what, 0);
        }
        due.is("free ones by what was told", x.count(5), 4);
        Disks.type(x, "1;1x7");
        x.disk();
        for (int what = 0; what < 5; what++) {
            due.is("count(" + (8 + what) + ") at its least", x.count(8 + what), 0);
        }
        due.is("free ones then", x.count(5), 0);
    }

    private static void pageIsEmptyThen(Due due) {
        for (String page : new String[] {"1;1x4", "1;1x4,1x4", FULL_PAGE}) {
            SlippedPlaces x = Disks.withPage(page);
            x.disk();
            due.is("count(0) behind disk()", x.count(0), 0);
            due.is("fault() behind disk()", x.fault(), 0);
            due.refused("disk() again", x, x::disk, STATE);
            due.is("blank() behind disk()", x.blank(), 0);
            due.is("disks read", x.count(14), 1);
        }
    }

    private static void noDiskToRead(Due due) {
        for (String page : new String[] {FULL_PAGE, "3;4x9,4x9,4x9"}) {
            for (int letters = 0; letters <= 13; letters++) {
                String part = page.substring(0, letters);
                if (letters == 5 || letters == 9 || letters == 13) {
                    due.holds("disk() of '" + part + "'", Disks.withPage(part).disk() > 0);
                } else {
                    refusePages(due, part);
                }
            }
        }
        refusePages(due, "1;1x4 ", " 1;1x4", "1;1x4,1x4 ", "1;1x4,1x4,1x3", "1;1x4,1x4,1x:", "1;1X4", "0;1x4", "             ");
        SlippedPlaces x = new SlippedPlaces();
        due.refused("disk() of an empty page, no disk yet", x, x::disk, STATE);
        due.is("disks read", x.count(14), 0);
    }
}
