/** Objects in the states that the tests start from, and several answers at once. */
final class Disks {
    private Disks() { }

    static void type(SlippedPlaces x, String text) {
        for (int i = 0; i < text.length(); i++) {
            x.letter(text.charAt(i));
        }
    }

    static SlippedPlaces withPage(String text) {
        SlippedPlaces x = new SlippedPlaces();
        type(x, text);
        return x;
    }

    static SlippedPlaces withDisk(String text) {
        SlippedPlaces x = withPage(text);
        x.disk();
        return x;
    }

    static SlippedPlaces withDisk(String text, int spares) {
        SlippedPlaces x = new SlippedPlaces();
        x.set(0, spares);
        type(x, text);
        x.disk();
        return x;
    }

    /** of(place, what) of every PLACE. */
    static long[] ofAll(SlippedPlaces x, int what) {
        long[] all = new long[x.count(1)];
        for (int p = 0; p < all.length; p++) {
            all[p] = x.of(p, what);
        }
        return all;
    }

    /** place() of every ADDRESS. */
    static long[] places(SlippedPlaces x) {
        long[] all = new long[x.count(2)];
        for (int a = 0; a < all.length; a++) {
            all[a] = x.place(a);
        }
        return all;
    }

    static long[] pendings(SlippedPlaces x) {
        long[] all = new long[x.count(7)];
        for (int i = 0; i < all.length; i++) {
            all[i] = x.pending(i);
        }
        return all;
    }

    static long[] counts(SlippedPlaces x) {
        long[] all = new long[15];
        for (int i = 0; i < all.length; i++) {
            all[i] = x.count(i);
        }
        return all;
    }

    static long[] runs(SlippedPlaces x) {
        return new long[] {x.runs(0), x.runs(1), x.runs(2)};
    }
}
