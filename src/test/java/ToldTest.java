/** Promises 6 to 8: set, harm, format. */
public final class ToldTest {
    private static final Due due = new Due();
    private static final int UNKNOWN = -1001, OUTSIDE = -1002;

    public static void main(String[] args) {
        setTellsWhatItWas();
        setRefuses();
        sparesCountFromTheNextFormatOn();
        harmTellsWhatItWas();
        harmRefuses();
        formatSlipsWhatWasReplaced();
        formatCertifiedSlipsWhatIsNotGood();
        formatTakesTheLastPlacesThatAreNotSlipped();
        formatLeavesNothingPending();
        formatCanLeaveNoAddress();
        due.end();
    }

    private static void setTellsWhatItWas() {
        int[] first = {1, 0, 0, 200, 300};
        int[] most = {4, 8, 8, 999, 999};
        for (int what = 0; what < 5; what++) {
            SlippedPlaces x = new SlippedPlaces();
            due.is("set(" + what + ", most)", x.set(what, most[what]), first[what]);
            for (int other = 0; other < 5; other++) {
                due.is("count after set(" + what + ")", x.count(8 + other), other == what ? most[what] : first[other]);
            }
            due.is("set(" + what + ", 0)", x.set(what, 0), most[what]);
            due.is("set(" + what + ", 2)", x.set(what, 2), 0);
            due.is("count", x.count(8 + what), 2);
        }
    }

    private static void setRefuses() {
        int[] most = {4, 8, 8, 999, 999};
        SlippedPlaces x = new SlippedPlaces();
        long before = x.digest();
        for (int what = 0; what < 5; what++) {
            due.is("set one too many", x.set(what, most[what] + 1), OUTSIDE);
            due.is("set one too few", x.set(what, -1), OUTSIDE);
            due.is("set the least", x.set(what, Integer.MIN_VALUE), OUTSIDE);
            due.is("set the most", x.set(what, Integer.MAX_VALUE), OUTSIDE);
        }
        due.is("set(5, 0)", x.set(5, 0), OUTSIDE);
        due.is("set(-1, 0)", x.set(-1, 0), OUTSIDE);
        due.is("set(least, 0)", x.set(Integer.MIN_VALUE, 0), OUTSIDE);
        due.is("set(most, 0)", x.set(Integer.MAX_VALUE, 0), OUTSIDE);
        due.is("digest after refusals", x.digest(), before);
    }

    private static void sparesCountFromTheNextFormatOn() {
        SlippedPlaces x = Disks.withDisk("1;1x6");
        x.set(0, 3);
        due.is("spares as told", x.count(8), 3);
        due.is("free ones before a format", x.count(5), 1);
        due.is("addresses before a format", x.count(2), 5);
        due.is("format(false)", x.format(false), 3);
        due.are("what each is for", Disks.ofAll(x, 5), 0, 0, 0, 1, 1, 1);
        x.set(0, 0);
        due.is("format(false) with no spares", x.format(false), 6);
        due.is("free ones", x.count(5), 0);
        due.is("formats", x.count(13), 2);
    }

    private static void harmTellsWhatItWas() {
        SlippedPlaces x = Disks.withDisk("1;1x4");
        due.is("harm(0, 1)", x.harm(0, 1), 0);
        due.is("of(0, 4)", x.of(0, 4), 1);
        due.is("harm(0, 2)", x.harm(0, 2), 1);
        due.is("of(0, 4)", x.of(0, 4), 2);
        due.is("harm(0, 0)", x.harm(0, 0), 2);
        due.is("of(0, 4)", x.of(0, 4), 0);
        due.is("harm(3, 2) of a free one", x.harm(3, 2), 0);
        due.is("it is a free one still", x.of(3, 5), 1);
        due.is("harm leaves nothing pending", x.count(7), 0);
    }

    private static void harmRefuses() {
        SlippedPlaces x = Disks.withDisk("1;1x4");
        x.harm(2, 1);
        long before = x.digest();
        due.is("harm(4, 0)", x.harm(4, 0), UNKNOWN);
        due.is("harm(-1, 0)", x.harm(-1, 0), UNKNOWN);
        due.is("harm(4, 3): the first refusal", x.harm(4, 3), UNKNOWN);
        due.is("harm(2, 3)", x.harm(2, 3), OUTSIDE);
        due.is("harm(2, -1)", x.harm(2, -1), OUTSIDE);
        due.is("harm(most, 0)", x.harm(Integer.MAX_VALUE, 0), UNKNOWN);
        due.is("harm(least, 0)", x.harm(Integer.MIN_VALUE, 0), UNKNOWN);
        due.is("digest after refusals", x.digest(), before);
    }

    private static void formatSlipsWhatWasReplaced() {
        SlippedPlaces x = Disks.withDisk("1;1x6", 2);
        x.harm(1, 2);
        x.harm(2, 2);
        x.harm(3, 1);
        due.is("write(1)", x.write(1), 2);
        x.harm(4, 2);
        due.is("write(1), whose spare went bad", x.write(1), 2);
        due.are("what each is for", Disks.ofAll(x, 5), 0, 4, 0, 0, 4, 2);
        x.harm(1, 0);
        due.is("format(false)", x.format(false), 2);
        due.are("what each is for then", Disks.ofAll(x, 5), 0, 3, 0, 1, 3, 1);
        due.are("how each is then", Disks.ofAll(x, 4), 0, 0, 2, 1, 2, 0);
        due.are("count", Disks.counts(x), 0, 6, 2, 2, 0, 2, 0, 0, 2, 0, 0, 200, 300, 1, 1);
        x.harm(4, 0);
        x.set(0, 0);
        due.is("format(false) again", x.format(false), 4);
        due.are("slipped for good", Disks.ofAll(x, 5), 0, 3, 0, 0, 3, 0);
        due.are("places of addresses", Disks.places(x), 0, 2, 3, 5);
    }

    private static void formatCertifiedSlipsWhatIsNotGood() {
        SlippedPlaces x = Disks.withDisk("1;2x5");
        x.harm(0, 1);
        x.harm(4, 2);
        x.harm(9, 1);
        due.is("format(false)", x.format(false), 9);
        due.is("slipped", x.count(3), 0);
        due.is("format(true)", x.format(true), 6);
        due.are("what each is for", Disks.ofAll(x, 5), 3, 0, 0, 0, 3, 0, 0, 0, 1, 3);
        due.are("how each is", Disks.ofAll(x, 4), 1, 0, 0, 0, 2, 0, 0, 0, 0, 1);
        due.are("address of each", Disks.ofAll(x, 7), -1, 0, 1, 2, -1, 3, 4, 5, -1, -1);
        due.are("places of addresses", Disks.places(x), 1, 2, 3, 5, 6, 7);
        x.harm(0, 0);
        x.harm(9, 0);
        due.is("format(true) with these good again", x.format(true), 6);
        due.is("formats", x.count(13), 3);
    }

    private static void formatTakesTheLastPlacesThatAreNotSlipped() {
        SlippedPlaces x = Disks.withDisk("1;1x5,1x4", 3);
        due.are("what each is for", Disks.ofAll(x, 5), 0, 0, 1, 1, 1, 0, 1, 1, 1);
        x.harm(3, 2);
        x.harm(5, 2);
        x.harm(7, 1);
        due.is("format(true)", x.format(true), 1);
        due.are("what each is for then", Disks.ofAll(x, 5), 0, 1, 1, 3, 1, 3, 1, 3, 1);
    }

    private static void formatLeavesNothingPending() {
        SlippedPlaces x = Disks.withDisk("1;1x6");
        x.harm(0, 1);
        x.harm(1, 2);
        x.read(0);
        x.read(1);
        x.write(2);
        due.are("pending", Disks.pendings(x), 0, 1);
        due.is("format(false)", x.format(false), 5);
        due.is("pending then", x.count(7), 0);
        due.is("pending(0)", x.pending(0), UNKNOWN);
        due.is("of(0, 4)", x.of(0, 4), 1);
        due.is("of(1, 4)", x.of(1, 4), 2);
    }

    private static void formatCanLeaveNoAddress() {
        SlippedPlaces x = Disks.withDisk("1;1x4");
        for (int p = 0; p < 4; p++) {
            x.harm(p, 2);
        }
        due.is("format(true) with all bad", x.format(true), 0);
        due.are("what each is for", Disks.ofAll(x, 5), 3, 3, 3, 3);
        due.is("free ones", x.count(5), 0);
        due.is("of(0, 8)", x.of(0, 8), -1);
        due.is("place(0)", x.place(0), UNKNOWN);
        due.is("mean()", x.mean(), -1003);
        due.is("skew(2)", x.skew(2), -1003);
        due.are("runs", Disks.runs(x), 0, 0, -1);
        due.is("format(false)", x.format(false), 0);
    }
}
