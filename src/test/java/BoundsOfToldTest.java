/** The boundary cases of FORMAT, of what is set, and of promises 6 to 8, a test for each sentence. */
public final class BoundsOfToldTest {
    private static final int UNKNOWN = -1001, OUTSIDE = -1002, STATE = -1003;
    private static final int[] FIRST = {1, 0, 0, 200, 300};
    private static final int[] MOST = {4, 8, 8, 999, 999};

    public static void main(String[] args) {
        Sentences s = new Sentences();
        all(s);
        s.end();
    }

    static void all(Sentences s) {
        s.holds("Terms", "A PLACE is GOOD (0, at first), WEAK (1) or BAD (2).", BoundsOfToldTest::goodAtFirst);
        s.holds("Terms", "SPARES (0 to 4 of each ZONE; 1 at first)", BoundsOfToldTest::spares);
        s.holds("Terms", "PLACES that were REPLACED become SLIPPED for good", BoundsOfToldTest::replacedBecomeSlipped);
        s.holds("Terms", "(those that are are so still)", BoundsOfToldTest::slippedStaySlipped);
        s.holds("Terms", "if it is CERTIFIED, all that are WEAK or BAD do so, too", BoundsOfToldTest::certified);
        s.holds("Terms", "Of each ZONE the last SPARES PLACES that are not SLIPPED", BoundsOfToldTest::lastOfEachZone);
        s.holds("Terms", "(all, if there are not so many) are FREE ones", BoundsOfToldTest::notSoMany);
        s.holds("Terms", "ADDRESSES, from 0 on, are all other PLACES that are not SLIPPED, in order", BoundsOfToldTest::addressesInOrder);
        s.holds("Terms", "Nothing is PENDING, nothing REPLACED then", BoundsOfToldTest::nothingPendingNorReplaced);
        s.holds("Terms", "A DISK that is read is FORMATTED so at once (nothing is SLIPPED)", BoundsOfToldTest::formattedAtOnce);
        s.holds("Terms", "SKEWS 0 to 8, 0 at first", due -> bounds(due, 1, 2));
        s.holds("Terms", "HEAD TICKS, CYLINDER TICKS 0 to 999; 200, 300 at first", due -> bounds(due, 3, 4));
        s.holds("Promise 6", "What = 0 SPARES (from the next FORMAT on)", BoundsOfToldTest::fromTheNextFormatOn);
        s.holds("Promise 6", "0 SPARES (from the next FORMAT on), 1 HEAD SKEW, 2 CYLINDER SKEW, 3 HEAD TICKS, 4 CYLINDER TICKS become v",
            BoundsOfToldTest::eachBecomesV);
        s.holds("Promise 6", "what they were", BoundsOfToldTest::whatTheyWere);
        s.holds("Promise 6", "OUTSIDE: what, v.", BoundsOfToldTest::setOutside);
        s.holds("Promise 7", "A PLACE becomes GOOD, WEAK or BAD: what it was.", BoundsOfToldTest::becomesWhatItWas);
        s.holds("Promise 7", "UNKNOWN: place", BoundsOfToldTest::harmUnknown);
        s.holds("Promise 7", "OUTSIDE: how (0 to 2)", BoundsOfToldTest::harmOutside);
        s.holds("Promise 7", "UNKNOWN: place; OUTSIDE: how (0 to 2)", BoundsOfToldTest::harmUnknownAheadOfOutside);
        s.holds("Promise 8", "how many ADDRESSES there are", BoundsOfToldTest::formatTellsAddresses);
        s.holds("Promise 8", "STATE: no DISK", BoundsOfToldTest::formatWithoutADisk);
    }

    private static void goodAtFirst(Due due) {
        SlippedPlaces x = Disks.withDisk("3;1x4,1x5,1x6");
        for (int p = 0; p < 45; p++) {
            due.is("how place " + p + " is at first", x.of(p, 4), 0);
        }
        x.harm(0, 1);
        x.harm(44, 2);
        due.is("weak", x.of(0, 4), 1);
        due.is("bad", x.of(44, 4), 2);
        due.is("the one next to the first", x.of(1, 4), 0);
        due.is("the one next to the last", x.of(43, 4), 0);
    }

    private static void spares(Due due) {
        SlippedPlaces x = Disks.withDisk("1;1x5,1x6,1x7");
        due.are("at first", Disks.ofAll(x, 5), 0, 0, 0, 0, 1, 0, 0, 0, 0, 0, 1, 0, 0, 0, 0, 0, 0, 1);
        for (int spares = 0; spares <= 4; spares++) {
            due.is("set(0, " + spares + ")", x.set(0, spares), spares == 0 ? 1 : spares - 1);
            due.is("format(false)", x.format(false), 18 - 3 * spares);
            due.is("free ones", x.count(5), 3 * spares);
            for (int p = 0; p < 18; p++) {
                int behind = p < 5 ? 5 - p : p < 11 ? 11 - p : 18 - p;
                due.is("place " + p + " with " + spares, x.of(p, 5), behind <= spares ? 1 : 0);
            }
        }
        for (int v : Edges.outside(0, 4)) {
            due.refused("set(0, " + v + ")", x, () -> x.set(0, v), OUTSIDE);
        }
    }

    private static void replacedBecomeSlipped(Due due) {
        for (boolean certified : new boolean[] {false, true}) {
            for (int how = 0; how <= 2; how++) {
                SlippedPlaces x = Disks.withDisk("1;1x5");
                x.harm(0, 2);
                due.is("write(0)", x.write(0), 2);
                x.harm(0, how);
                due.is("format(" + certified + ") with the replaced one " + how, x.format(certified), 3);
                due.are("what each is for", Disks.ofAll(x, 5), 3, 0, 0, 0, 1);
                due.is("how it is", x.of(0, 4), how);
                x.harm(0, 0);
                x.set(0, 0);
                due.is("format again", x.format(certified), 4);
                due.is("slipped for good", x.of(0, 5), 3);
            }
        }
        takenThatWasReplaced(due);
        takenIsNotSlipped(due);
    }

    private static void takenThatWasReplaced(Due due) {
        SlippedPlaces x = Disks.withDisk("1;1x6", 2);
        x.harm(0, 2);
        due.is("write(0)", x.write(0), 2);
        x.harm(4, 2);
        due.is("write(0), whose taken one is bad", x.write(0), 2);
        due.are("a taken one can be replaced", Disks.ofAll(x, 5), 4, 0, 0, 0, 4, 2);
        x.harm(4, 0);
        due.is("format(false)", x.format(false), 2);
        due.are("both are slipped", Disks.ofAll(x, 5), 3, 0, 0, 1, 3, 1);
    }

    private static void takenIsNotSlipped(Due due) {
        SlippedPlaces x = Disks.withDisk("1;1x5");
        x.harm(0, 2);
        x.write(0);
        x.harm(4, 2);
        x.set(0, 0);
        due.is("a bad one that was taken, not replaced: format(false)", x.format(false), 4);
        due.are("what each is for", Disks.ofAll(x, 5), 3, 0, 0, 0, 0);
    }

    private static void slippedStaySlipped(Due due) {
        SlippedPlaces x = Disks.withDisk("1;1x6", 0);
        x.harm(0, 1);
        x.harm(5, 2);
        due.is("format(true)", x.format(true), 4);
        x.harm(0, 0);
        x.harm(5, 0);
        for (int i = 0; i < 4; i++) {
            due.is("format again", x.format(i % 2 == 0), 4);
            due.are("what each is for", Disks.ofAll(x, 5), 3, 0, 0, 0, 0, 3);
        }
        due.is("slipped", x.count(3), 2);
        x.harm(1, 2);
        due.is("one more", x.format(true), 3);
        due.is("slipped then", x.count(3), 3);
    }

    private static void certified(Due due) {
        SlippedPlaces x = Disks.withDisk("1;2x5", 2);
        x.harm(2, 2);
        x.harm(0, 1);
        due.is("write(2)", x.write(2), 2);
        due.is("the taken one", x.place(2), 8);
        x.harm(8, 1);
        x.harm(9, 2);
        x.harm(5, 2);
        due.is("not certified: format(false)", x.format(false), 7);
        due.are("weak and bad ones stay", Disks.ofAll(x, 5), 0, 0, 3, 0, 0, 0, 0, 0, 1, 1);
        due.is("certified: format(true)", x.format(true), 3);
        due.are("weak and bad ones go, the free ones too", Disks.ofAll(x, 5), 3, 0, 3, 0, 0, 3, 1, 1, 3, 3);
        due.are("how each is", Disks.ofAll(x, 4), 1, 0, 2, 0, 0, 2, 0, 0, 1, 2);
        SlippedPlaces y = Disks.withDisk("1;1x4", 0);
        due.is("certified with all good", y.format(true), 4);
        due.is("slipped", y.count(3), 0);
        for (int p = 0; p < 4; p++) {
            y.harm(p, 1 + p % 2);
        }
        due.is("not certified with none good", y.format(false), 4);
        due.is("certified with none good", y.format(true), 0);
        due.is("slipped then", y.count(3), 4);
    }

    private static void lastOfEachZone(Due due) {
        SlippedPlaces x = Disks.withDisk("1;2x4,1x4", 2);
        due.are("at first", Disks.ofAll(x, 5), 0, 0, 0, 0, 0, 0, 1, 1, 0, 0, 1, 1);
        x.harm(7, 2);
        x.harm(10, 1);
        x.format(true);
        due.are("the last of each zone slipped, or the last but one", Disks.ofAll(x, 5), 0, 0, 0, 0, 0, 1, 1, 3, 0, 1, 3, 1);
        x.harm(4, 2);
        x.harm(5, 2);
        x.harm(6, 2);
        x.format(true);
        due.are("the last track of a zone slipped", Disks.ofAll(x, 5), 0, 0, 1, 1, 3, 3, 3, 3, 0, 1, 3, 1);
        SlippedPlaces y = Disks.withDisk("2;1x4,1x4", 4);
        due.are("a whole track free", Disks.ofAll(y, 5), 0, 0, 0, 0, 1, 1, 1, 1, 0, 0, 0, 0, 1, 1, 1, 1);
    }

    private static void notSoMany(Due due) {
        SlippedPlaces x = Disks.withDisk("1;1x5,1x4", 4);
        due.are("one too many, and just so many", Disks.ofAll(x, 5), 0, 1, 1, 1, 1, 1, 1, 1, 1);
        due.is("addresses", x.count(2), 1);
        x.harm(5, 2);
        due.is("format(true)", x.format(true), 1);
        due.are("one too few in a zone: all", Disks.ofAll(x, 5), 0, 1, 1, 1, 1, 3, 1, 1, 1);
        x.harm(2, 1);
        due.is("format(true)", x.format(true), 0);
        due.are("no address", Disks.ofAll(x, 5), 1, 1, 3, 1, 1, 3, 1, 1, 1);
        for (int p = 5; p < 9; p++) {
            x.harm(p, 2);
        }
        due.is("format(true)", x.format(true), 0);
        due.are("none in a zone", Disks.ofAll(x, 5), 1, 1, 3, 1, 1, 3, 3, 3, 3);
        due.is("free ones", x.count(5), 4);
        x.set(0, 3);
        due.is("format(false)", x.format(false), 1);
        due.are("the other zone's are not taken for it", Disks.ofAll(x, 5), 0, 1, 3, 1, 1, 3, 3, 3, 3);
    }

    private static void addressesInOrder(Due due) {
        SlippedPlaces x = Disks.withDisk("1;1x4,1x5");
        due.are("at first", Disks.places(x), 0, 1, 2, 4, 5, 6, 7);
        x.harm(0, 2);
        x.harm(4, 2);
        x.write(0);
        due.is("format(true)", x.format(true), 5);
        due.are("the first of each zone slipped", Disks.places(x), 1, 2, 5, 6, 7);
        due.are("its address", Disks.ofAll(x, 7), -1, 0, 1, -1, -1, 2, 3, 4, -1);
        x.set(0, 0);
        due.is("format(false)", x.format(false), 7);
        due.are("no spares", Disks.places(x), 1, 2, 3, 5, 6, 7, 8);
        due.is("behind the last", x.place(7), UNKNOWN);
        SlippedPlaces y = Disks.withDisk("1;1x6", 2);
        y.harm(3, 2);
        y.write(3);
        due.are("replaced", Disks.places(y), 0, 1, 2, 4);
        y.set(0, 0);
        y.format(false);
        due.are("what was taken has its own turn again", Disks.places(y), 0, 1, 2, 4, 5);
    }

    private static void nothingPendingNorReplaced(Due due) {
        for (boolean certified : new boolean[] {false, true}) {
            SlippedPlaces x = Disks.withDisk("1;1x9", 2);
            for (int p = 0; p < 7; p++) {
                x.harm(p, 1 + p % 2);
                x.read(p);
            }
            x.write(1);
            x.write(3);
            due.is("write(5), none is left", x.write(5), 3);
            due.are("pending ahead of it", Disks.pendings(x), 0, 2, 4, 5, 6);
            due.is("replaced ahead of it", x.count(4), 2);
            due.is("taken ahead of it", x.count(6), 2);
            x.format(certified);
            due.is("pending", x.count(7), 0);
            due.is("pending(0)", x.pending(0), UNKNOWN);
            due.is("replaced", x.count(4), 0);
            due.is("taken", x.count(6), 0);
            for (int p = 0; p < 9; p++) {
                int use = x.of(p, 5);
                due.holds("place " + p + " is an address's, free or slipped", use == 0 || use == 1 || use == 3);
            }
        }
    }

    private static void formattedAtOnce(Due due) {
        for (int spares = 0; spares <= 4; spares++) {
            SlippedPlaces x = Disks.withDisk("1;1x5,1x4", spares);
            due.is("addresses with " + spares, x.count(2), 9 - 2 * spares);
            due.is("free ones with " + spares, x.count(5), 2 * spares);
            due.is("slipped", x.count(3), 0);
            due.is("it is no format()", x.count(13), 0);
        }
        SlippedPlaces y = Disks.withDisk("1;1x4", 0);
        for (int p = 0; p < 4; p++) {
            y.harm(p, 2);
            y.read(p);
        }
        due.is("all slipped", y.format(true), 0);
        Disks.type(y, "1;1x4");
        due.is("the same again", y.disk(), 4);
        due.are("what each is for", Disks.ofAll(y, 5), 0, 0, 0, 0);
        due.are("count", Disks.counts(y), 0, 4, 4, 0, 0, 0, 0, 0, 0, 0, 0, 200, 300, 1, 2);
    }

    private static void bounds(Due due, int... whats) {
        for (int what : whats) {
            SlippedPlaces x = Disks.withDisk("2;2x9");
            due.is("at first", x.count(8 + what), FIRST[what]);
            for (int v : Edges.outside(0, MOST[what])) {
                due.refused("set(" + what + ", " + v + ")", x, () -> x.set(what, v), OUTSIDE);
            }
            due.is("the most", x.set(what, MOST[what]), FIRST[what]);
            due.is("the most, told", x.count(8 + what), MOST[what]);
            due.is("the least", x.set(what, 0), MOST[what]);
            due.is("the least, told", x.count(8 + what), 0);
            due.is("the most but one", x.set(what, MOST[what] - 1), 0);
            due.is("the least but one", x.set(what, 1), MOST[what] - 1);
            due.refused("set(" + what + ", one too many)", x, () -> x.set(what, MOST[what] + 1), OUTSIDE);
        }
    }

    private static void fromTheNextFormatOn(Due due) {
        SlippedPlaces x = Disks.withDisk("1;1x5");
        long[] before = Disks.ofAll(x, 5);
        x.set(0, 4);
        due.are("what each is for, not yet formatted", Disks.ofAll(x, 5), before);
        due.is("addresses, not yet formatted", x.count(2), 4);
        due.is("as told", x.count(8), 4);
        due.is("format(false)", x.format(false), 1);
        x.set(0, 0);
        due.is("addresses, not yet formatted again", x.count(2), 1);
        due.is("free ones, not yet formatted again", x.count(5), 4);
        x.set(0, 2);
        due.is("the last that was told counts: format(true)", x.format(true), 3);
        x.set(0, 3);
        Disks.type(x, "1;1x6");
        x.disk();
        due.is("a disk that is read is formatted by it", x.count(5), 3);
    }

    private static void eachBecomesV(Due due) {
        for (int what = 0; what < 5; what++) {
            SlippedPlaces x = Disks.withDisk("1;1x5");
            for (int v = 0; v <= MOST[what]; v += MOST[what] > 10 ? 27 : 1) {
                x.set(what, v);
                due.is("count behind set(" + what + ", " + v + ")", x.count(8 + what), v);
            }
            for (int other = 0; other < 5; other++) {
                if (other != what) {
                    due.is("the others stay", x.count(8 + other), FIRST[other]);
                }
            }
        }
        SlippedPlaces y = Disks.withDisk("2;2x9", 0);
        y.set(1, 2);
        due.is("head skew counts at once", y.of(9, 6), 560);
        y.set(2, 3);
        due.is("cylinder skew counts at once", y.of(18, 6), 840);
        y.set(3, 560);
        due.is("head ticks count at once, just in time", y.ticks(8, 2), 2520 + 560 + 280);
        y.set(3, 561);
        due.is("head ticks, too late", y.ticks(8, 2), 5040 + 560 + 280);
        y.set(3, 0);
        // place 17 ends at 560, the next place's angle is 840
        y.set(4, 280);
        due.is("cylinder ticks count at once, just in time", y.ticks(17, 2), 560 + 280 + 280);
        y.set(4, 281);
        due.is("cylinder ticks, too late", y.ticks(17, 2), 2520 + 840 + 280);
    }

    private static void whatTheyWere(Due due) {
        for (int what : new int[] {0, 1, 2, 3, 4}) {
            SlippedPlaces x = new SlippedPlaces();
            due.is("set(" + what + ", most)", x.set(what, MOST[what]), FIRST[what]);
            due.is("set(" + what + ", most) again", x.set(what, MOST[what]), MOST[what]);
            due.is("set(" + what + ", 0)", x.set(what, 0), MOST[what]);
            due.is("set(" + what + ", 0) again", x.set(what, 0), 0);
            due.refused("set(" + what + ", -1)", x, () -> x.set(what, -1), OUTSIDE);
            due.is("set(" + what + ", 1) behind a refusal", x.set(what, 1), 0);
        }
    }

    private static void setOutside(Due due) {
        for (SlippedPlaces x : new SlippedPlaces[] {new SlippedPlaces(), Disks.withDisk("1;1x5")}) {
            for (int what : Edges.outside(0, 4)) {
                for (int v : new int[] {Integer.MIN_VALUE, -1, 0, 1, Integer.MAX_VALUE}) {
                    due.refused("set(" + what + ", " + v + ")", x, () -> x.set(what, v), OUTSIDE);
                }
            }
            for (int what = 0; what < 5; what++) {
                int w = what;
                for (int v : Edges.outside(0, MOST[what])) {
                    due.refused("set(" + what + ", " + v + ")", x, () -> x.set(w, v), OUTSIDE);
                }
            }
        }
    }

    private static void becomesWhatItWas(Due due) {
        SlippedPlaces x = Disks.withDisk("1;1x4");
        int is = 0;
        for (int how : new int[] {0, 1, 1, 2, 2, 0, 2, 1, 0}) {
            for (int p : new int[] {0, 3}) {
                due.is("harm(" + p + ", " + how + ")", x.harm(p, how), is);
                due.is("of(" + p + ", 4)", x.of(p, 4), how);
            }
            is = how;
        }
        due.is("the one between stays", x.of(1, 4), 0);
        everyUseCanBeHarmed(due);
    }

    private static void everyUseCanBeHarmed(Due due) {
        SlippedPlaces x = Disks.withDisk("1;1x6", 2);
        x.harm(0, 2);
        x.format(true);
        x.harm(1, 2);
        x.write(0);
        due.are("what each is for", Disks.ofAll(x, 5), 3, 4, 0, 0, 2, 1);
        for (int p = 0; p < 6; p++) {
            x.harm(p, 0);
            for (int how = 2; how >= 0; how--) {
                due.is("harm(" + p + ", " + how + ")", x.harm(p, how), how == 2 ? 0 : how + 1);
            }
        }
        due.are("what each is for still", Disks.ofAll(x, 5), 3, 4, 0, 0, 2, 1);
        due.is("pending", x.count(7), 0);
    }

    private static void harmUnknown(Due due) {
        for (String page : new String[] {"1;1x4", "3;4x9,4x9,4x9"}) {
            SlippedPlaces x = Disks.withDisk(page);
            int places = x.count(1);
            due.is("harm(0, 1)", x.harm(0, 1), 0);
            due.is("harm(last, 1)", x.harm(places - 1, 1), 0);
            for (int place : Edges.outside(0, places - 1)) {
                for (int how = 0; how <= 2; how++) {
                    int h = how;
                    due.refused("harm(" + place + ", " + how + ")", x, () -> x.harm(place, h), UNKNOWN);
                }
            }
        }
        SlippedPlaces y = Disks.withDisk("1;1x5");
        Disks.type(y, "1;1x4");
        y.disk();
        due.refused("harm(4, 1) of a disk that is gone", y, () -> y.harm(4, 1), UNKNOWN);
    }

    private static void harmOutside(Due due) {
        SlippedPlaces x = Disks.withDisk("1;1x4");
        x.harm(3, 1);
        for (int place : new int[] {0, 3}) {
            for (int how : Edges.outside(0, 2)) {
                due.refused("harm(" + place + ", " + how + ")", x, () -> x.harm(place, how), OUTSIDE);
            }
        }
        due.is("harm(0, 2)", x.harm(0, 2), 0);
        due.is("harm(3, 0)", x.harm(3, 0), 1);
    }

    private static void harmUnknownAheadOfOutside(Due due) {
        SlippedPlaces x = Disks.withDisk("1;1x4");
        SlippedPlaces none = new SlippedPlaces();
        for (int place : Edges.outside(0, 3)) {
            for (int how : Edges.outside(0, 2)) {
                due.refused("harm(" + place + ", " + how + ")", x, () -> x.harm(place, how), UNKNOWN);
            }
        }
        due.refused("harm(0, 3) without a disk", none, () -> none.harm(0, 3), UNKNOWN);
        due.refused("harm(0, -1) without a disk", none, () -> none.harm(0, -1), UNKNOWN);
    }

    private static void formatTellsAddresses(Due due) {
        SlippedPlaces x = Disks.withDisk("1;1x4", 0);
        due.is("all places", x.format(false), 4);
        due.is("all places, certified", x.format(true), 4);
        x.set(0, 3);
        due.is("one", x.format(false), 1);
        x.set(0, 4);
        due.is("none", x.format(false), 0);
        due.is("none, certified", x.format(true), 0);
        due.is("formats", x.count(13), 5);
        SlippedPlaces y = Disks.withDisk("3;4x9,4x9,4x9", 0);
        due.is("all of the greatest", y.format(false), 324);
        y.set(0, 4);
        due.is("with most spares", y.format(true), 312);
        y.harm(0, 2);
        due.is("as they are, not certified", y.format(false), 312);
        due.is("as they are, certified", y.format(true), 311);
    }

    private static void formatWithoutADisk(Due due) {
        SlippedPlaces x = new SlippedPlaces();
        due.refused("format(false)", x, () -> x.format(false), STATE);
        due.refused("format(true)", x, () -> x.format(true), STATE);
        Disks.type(x, "1;1x4");
        due.refused("format(false) with a disk on the page", x, () -> x.format(false), STATE);
        due.refused("format(true) with a disk on the page", x, () -> x.format(true), STATE);
        due.is("formats", x.count(13), 0);
        x.disk();
        due.is("format(false) with a disk", x.format(false), 3);
        due.is("formats then", x.count(13), 1);
        Disks.type(x, "1;");
        due.refused("disk() of no disk", x, x::disk, STATE);
        due.is("format(true): the disk is there still", x.format(true), 3);
    }
}
