/**
 * Addresses on a disk of zones some of whose places are bad: which place an address has, what is slipped, replaced
 * and pending, and how long a run of addresses takes. The promises are in the project's document.
 */
public final class SlippedPlaces {
    public static final int NONE = -1, UNKNOWN = -1001, OUTSIDE = -1002, STATE = -1003, FULL = -1004;

    private static final int MOST_LETTERS = 13;
    private static final int MOST_HEADS = 3, MOST_ZONES = 3, MOST_CYLINDERS = 4, MOST_SECTORS = 9;
    private static final int MOST_PLACES = MOST_HEADS * MOST_ZONES * MOST_CYLINDERS * MOST_SECTORS;

    private static final int GOOD = 0, WEAK = 1, BAD = 2;
    private static final int ADDRESSED = 0, FREE = 1, TAKEN = 2, SLIPPED = 3, REPLACED = 4;
    private static final int ANY_KIND = 0, ADDRESS_KIND = 1, OTHER_KIND = 2;
    private static final int WELL = 0, READ_FAILS = 1;
    private static final int HEALED = 1, MOVED = 2, WRITE_FAILS = 3;

    private static final int SPARES = 0, HEAD_SKEW = 1, CYLINDER_SKEW = 2, HEAD_TICKS = 3, CYLINDER_TICKS = 4;
    private static final int SETTINGS = 5;
    private static final int[] FIRST_SETTINGS = {1, 0, 0, 200, 300};
    private static final int[] MOST_OF_SETTINGS = {4, 8, 8, 999, 999};
    private static final int MOST_SKEW = 8;

    private static final int TURN = 2520;
    private static final int COUNTS = 15;
    private static final long DIGEST_START = 1733L, DIGEST_FACTOR = 31L;

    private final Page page = new Page();
    private final Clock clock = new Clock();
    private final Surface surface = clock.surface;
    private final Layout layout = surface.layout;
    private final Row settings = clock.settings;
    private int formats;
    private int disksRead;

    public SlippedPlaces() {
        for (int i = 0; i < FIRST_SETTINGS.length; i++) {
            settings.put(i, FIRST_SETTINGS[i]);
        }
    }

    public int letter(int code) {
        if (code < 32 || code > 126) {
            return OUTSIDE;
        }
        if (page.isFull()) {
            return FULL;
        }
        page.append(code);
        return page.length;
    }

    public int blank() {
        int had = page.length;
        page.clear();
        return had;
    }

    public int fault() {
        return page.firstMisfit();
    }

    public int disk() {
        if (!page.isWholeDisk()) {
            return STATE;
        }
        layout.build(page);
        surface.renew();
        surface.assign(settings.at(SPARES), false);
        page.clear();
        disksRead++;
        return layout.places;
    }

    public int set(int what, int v) {
        if (what < 0 || what >= MOST_OF_SETTINGS.length || v < 0 || v > MOST_OF_SETTINGS[what]) {
            return OUTSIDE;
        }
        int was = settings.at(what);
        settings.put(what, v);
        return was;
    }

    public int harm(int place, int how) {
        if (!layout.has(place)) {
            return UNKNOWN;
        }
        if (how < GOOD || how > BAD) {
            return OUTSIDE;
        }
        int was = surface.conditions.at(place);
        surface.conditions.put(place, how);
        return was;
    }

    public int format(boolean certified) {
        if (!hasDisk()) {
            return STATE;
        }
        surface.assign(settings.at(SPARES), certified);
        formats++;
        return surface.addresses;
    }

    public int of(int place, int what) {
        if (!layout.has(place)) {
            return UNKNOWN;
        }
        switch (what) {
            case 0: return layout.cylinderOf.at(place);
            case 1: return layout.headOf.at(place);
            case 2: return layout.sectorOf.at(place);
            case 3: return layout.zoneOf.at(place);
            case 4: return surface.conditions.at(place);
            case 5: return surface.uses.at(place);
            case 6: return clock.angle(place, settings.at(HEAD_SKEW), settings.at(CYLINDER_SKEW));
            case 7: return surface.addressOf.at(place);
            case 8: return surface.nearest(place);
            default: return OUTSIDE;
        }
    }

    public int place(int address) {
        return surface.has(address) ? surface.placeOf.at(address) : UNKNOWN;
    }

    public int as(int place, int kind) {
        if (!layout.has(place)) {
            return UNKNOWN;
        }
        boolean addressed = surface.addressOf.at(place) != NONE;
        switch (kind) {
            case ANY_KIND: return place;
            case ADDRESS_KIND: return addressed ? place : NONE;
            case OTHER_KIND: return addressed ? NONE : place;
            default: return OUTSIDE;
        }
    }

    public int read(int address) {
        return surface.has(address) ? surface.fetch(address) : UNKNOWN;
    }

    public int write(int address) {
        return surface.has(address) ? surface.store(address) : UNKNOWN;
    }

    public int pending(int place) {
        int address = surface.waitingAt(place);
        return address == NONE ? UNKNOWN : address;
    }

    public int runs(int what) {
        if (what < 0 || what > 2) {
            return OUTSIDE;
        }
        if (!hasDisk()) {
            return STATE;
        }
        switch (what) {
            case 0: return surface.howManyRuns();
            case 1: return surface.runLength(surface.longestRun());
            default: return surface.longestRun();
        }
    }

    public int ticks(int address, int n) {
        if (!surface.has(address)) {
            return UNKNOWN;
        }
        if (!surface.reaches(address, n)) {
            return OUTSIDE;
        }
        return clock.duration(address, n, settings.at(HEAD_SKEW), settings.at(CYLINDER_SKEW));
    }

    public int rate(int address, int n) {
        int taken = ticks(address, n);
        if (taken <= 0) {
            return taken;
        }
        return Bits.ofFloat((float) n * (float) TURN / (float) taken);
    }

    public long mean() {
        if (surface.addresses <= 0) {
            return STATE;
        }
        return Bits.ofDouble((double) clock.sumOfEachAlone() / (double) surface.addresses);
    }

    public int skew(int what) {
        if (what != HEAD_SKEW && what != CYLINDER_SKEW) {
            return OUTSIDE;
        }
        if (surface.addresses <= 0) {
            return STATE;
        }
        return clock.bestSkew(what);
    }

    public int count(int what) {
        switch (what) {
            case 0: return page.length;
            case 1: return layout.places;
            case 2: return surface.addresses;
            case 3: return surface.howManyUsed(SLIPPED);
            case 4: return surface.howManyUsed(REPLACED);
            case 5: return surface.howManyUsed(FREE);
            case 6: return surface.howManyUsed(TAKEN);
            case 7: return surface.howManyWait();
            case 8: return settings.at(SPARES);
            case 9: return settings.at(HEAD_SKEW);
            case 10: return settings.at(CYLINDER_SKEW);
            case 11: return settings.at(HEAD_TICKS);
            case 12: return settings.at(CYLINDER_TICKS);
            case 13: return formats;
            case 14: return disksRead;
            default: return OUTSIDE;
        }
    }

    public long digest() {
        long h = digestOfPlaces(DIGEST_START);
        h = digestOfAddresses(h);
        h = digestOfTimes(h);
        for (int i = 0; i < page.length; i++) {
            h = joined(h, page.codes.at(i));
        }
        for (int what = 0; what < COUNTS; what++) {
            h = joined(h, count(what));
        }
        return h;
    }

    private boolean hasDisk() {
        return layout.places > 0;
    }

    private long digestOfPlaces(long start) {
        long h = start;
        for (int p = 0; p < layout.places; p++) {
            h = joined(h, of(p, 4));
            h = joined(h, of(p, 5));
            h = joined(h, of(p, 7));
        }
        return h;
    }

    private long digestOfAddresses(long start) {
        long h = start;
        for (int a = 0; a < surface.addresses; a++) {
            h = joined(h, place(a));
        }
        for (int a = 0; a < surface.addresses; a++) {
            if (surface.waits(a)) {
                h = joined(h, a);
            }
        }
        return h;
    }

    private long digestOfTimes(long start) {
        long h = start;
        if (hasDisk()) {
            for (int what = 0; what <= 2; what++) {
                h = joined(h, runs(what));
            }
        }
        if (surface.addresses > 0) {
            h = joined(h, ticks(0, surface.addresses));
            h = joined(h, rate(0, surface.addresses));
            h = joined(h, mean());
            h = joined(h, skew(HEAD_SKEW));
            h = joined(h, skew(CYLINDER_SKEW));
        }
        return h;
    }

    private static long joined(long h, long number) {
        return DIGEST_FACTOR * h + number;
    }

    /** Numbers in a row; every index is looked at here, so that no call can miss the row. */
    private static final class Row {
        private final int[] cells;

        Row(int length) {
            cells = new int[length > 0 ? length : 0];
        }

        int at(int i) {
            return i >= 0 && i < cells.length ? cells[i] : NONE;
        }

        void put(int i, int v) {
            if (i >= 0 && i < cells.length) {
                cells[i] = v;
            }
        }
    }

    /** THE PAGE: letters on their way to be read as a DISK. */
    private static final class Page {
        private static final int HEADS_AT = 0, SEMICOLON_AT = 1, ZONES_AT = 2, ZONE_STEP = 4;
        private static final int X_IN_ZONE = 1, SECTORS_IN_ZONE = 2;

        private final Row codes = new Row(MOST_LETTERS);
        private int length;

        boolean isFull() {
            return length >= MOST_LETTERS;
        }

        void append(int code) {
            codes.put(length, code);
            length++;
        }

        void clear() {
            length = 0;
        }

        int firstMisfit() {
            for (int i = 0; i < length; i++) {
                if (!fits(i, codes.at(i))) {
                    return i;
                }
            }
            return length;
        }

        // Which signs a DISK can have next depends on the position alone: the page is too short for a fourth zone.
        private static boolean fits(int at, int code) {
            if (at == HEADS_AT) {
                return code >= '1' && code <= '0' + MOST_HEADS;
            }
            if (at == SEMICOLON_AT) {
                return code == ';';
            }
            switch ((at - ZONES_AT) % ZONE_STEP) {
                case 0: return code >= '1' && code <= '0' + MOST_CYLINDERS;
                case X_IN_ZONE: return code == 'x';
                case SECTORS_IN_ZONE: return code >= '4' && code <= '0' + MOST_SECTORS;
                default: return code == ',';
            }
        }

        boolean isWholeDisk() {
            return howManyZones() > 0 && length == ZONES_AT + ZONE_STEP * howManyZones() - 1 && firstMisfit() == length;
        }

        int howManyZones() {
            return (length + 1 - ZONES_AT) / ZONE_STEP;
        }

        int heads() {
            return digitAt(HEADS_AT);
        }

        int cylindersOf(int zone) {
            return digitAt(ZONES_AT + ZONE_STEP * zone);
        }

        int sectorsOf(int zone) {
            return digitAt(ZONES_AT + ZONE_STEP * zone + SECTORS_IN_ZONE);
        }

        private int digitAt(int i) {
            return codes.at(i) - '0';
        }
    }

    /** Where each PLACE lies on the DISK; no places, no DISK. */
    private static final class Layout {
        private final Row cylinderOf = new Row(MOST_PLACES);
        private final Row headOf = new Row(MOST_PLACES);
        private final Row sectorOf = new Row(MOST_PLACES);
        private final Row zoneOf = new Row(MOST_PLACES);
        private final Row sectorsAt = new Row(MOST_PLACES);
        private int places;

        void build(Page page) {
            places = 0;
            int heads = page.heads();
            int cylinder = 0;
            for (int zone = 0; zone < page.howManyZones(); zone++) {
                int cylinders = page.cylindersOf(zone);
                for (int i = 0; i < cylinders; i++) {
                    for (int head = 0; head < heads; head++) {
                        addTrack(zone, cylinder, head, page.sectorsOf(zone));
                    }
                    cylinder++;
                }
            }
        }

        private void addTrack(int zone, int cylinder, int head, int sectors) {
            for (int sector = 0; sector < sectors; sector++) {
                cylinderOf.put(places, cylinder);
                headOf.put(places, head);
                sectorOf.put(places, sector);
                zoneOf.put(places, zone);
                sectorsAt.put(places, sectors);
                places++;
            }
        }

        boolean has(int place) {
            return place >= 0 && place < places;
        }
    }

    /** How each PLACE is and what it is for, and which PLACE each ADDRESS has. */
    private static final class Surface {
        private final Layout layout = new Layout();
        private final Row conditions = new Row(MOST_PLACES);
        private final Row uses = new Row(MOST_PLACES);
        private final Row addressOf = new Row(MOST_PLACES);
        private final Row placeOf = new Row(MOST_PLACES);
        private final Row waiting = new Row(MOST_PLACES);
        private int addresses;

        void renew() {
            for (int p = 0; p < layout.places; p++) {
                conditions.put(p, GOOD);
                uses.put(p, ADDRESSED);
            }
        }

        /** FORMAT. */
        void assign(int spares, boolean certified) {
            for (int p = 0; p < layout.places; p++) {
                uses.put(p, slips(p, certified) ? SLIPPED : ADDRESSED);
            }
            layAsideSpares(spares);
            numberAddresses();
        }

        private boolean slips(int place, boolean certified) {
            int use = uses.at(place);
            return use == SLIPPED || use == REPLACED || certified && conditions.at(place) != GOOD;
        }

        private void layAsideSpares(int spares) {
            int zone = NONE;
            int left = 0;
            for (int p = layout.places - 1; p >= 0; p--) {
                if (layout.zoneOf.at(p) != zone) {
                    zone = layout.zoneOf.at(p);
                    left = spares;
                }
                if (left > 0 && uses.at(p) != SLIPPED) {
                    uses.put(p, FREE);
                    left--;
                }
            }
        }

        private void numberAddresses() {
            addresses = 0;
            for (int p = 0; p < layout.places; p++) {
                addressOf.put(p, NONE);
                if (uses.at(p) == ADDRESSED) {
                    addressOf.put(p, addresses);
                    placeOf.put(addresses, p);
                    waiting.put(addresses, 0);
                    addresses++;
                }
            }
        }

        boolean has(int address) {
            return address >= 0 && address < addresses;
        }

        boolean reaches(int address, int n) {
            return has(address) && n >= 1 && n <= addresses - address;
        }

        boolean waits(int address) {
            return has(address) && waiting.at(address) == 1;
        }

        int fetch(int address) {
            if (conditions.at(placeOf.at(address)) == GOOD) {
                return WELL;
            }
            waiting.put(address, 1);
            return READ_FAILS;
        }

        int store(int address) {
            int place = placeOf.at(address);
            int condition = conditions.at(place);
            int spare = condition == BAD ? nearest(place) : NONE;
            if (condition == BAD && spare == NONE) {
                waiting.put(address, 1);
                return WRITE_FAILS;
            }
            waiting.put(address, 0);
            if (condition == BAD) {
                move(address, place, spare);
                return MOVED;
            }
            conditions.put(place, GOOD);
            return condition == WEAK ? HEALED : WELL;
        }

        // The spare is never BAD: being written, it is GOOD from then on even if it was WEAK.
        private void move(int address, int place, int spare) {
            uses.put(place, REPLACED);
            addressOf.put(place, NONE);
            uses.put(spare, TAKEN);
            addressOf.put(spare, address);
            placeOf.put(address, spare);
            conditions.put(spare, GOOD);
        }

        int nearest(int place) {
            int own = layout.cylinderOf.at(place);
            int best = NONE;
            int least = 0;
            for (int p = 0; p < layout.places; p++) {
                if (uses.at(p) == FREE && conditions.at(p) != BAD) {
                    int apart = Math.abs(layout.cylinderOf.at(p) - own);
                    if (best == NONE || apart < least) {
                        best = p;
                        least = apart;
                    }
                }
            }
            return best;
        }

        int waitingAt(int index) {
            int ahead = 0;
            for (int a = 0; a < addresses; a++) {
                if (waits(a)) {
                    if (ahead == index) {
                        return a;
                    }
                    ahead++;
                }
            }
            return NONE;
        }

        int howManyWait() {
            int n = 0;
            for (int a = 0; a < addresses; a++) {
                if (waits(a)) {
                    n++;
                }
            }
            return n;
        }

        int howManyUsed(int use) {
            int n = 0;
            for (int p = 0; p < layout.places; p++) {
                if (uses.at(p) == use) {
                    n++;
                }
            }
            return n;
        }

        private boolean startsRun(int address) {
            return address == 0 || placeOf.at(address) != placeOf.at(address - 1) + 1;
        }

        int howManyRuns() {
            int n = 0;
            for (int a = 0; a < addresses; a++) {
                if (startsRun(a)) {
                    n++;
                }
            }
            return n;
        }

        int runLength(int first) {
            if (!has(first)) {
                return 0;
            }
            int end = first + 1;
            while (end < addresses && !startsRun(end)) {
                end++;
            }
            return end - first;
        }

        int longestRun() {
            int best = NONE;
            int most = 0;
            for (int a = 0; a < addresses; a++) {
                if (startsRun(a) && runLength(a) > most) {
                    best = a;
                    most = runLength(a);
                }
            }
            return best;
        }
    }

    /** How long it takes, in TICKS. */
    private static final class Clock {
        private final Surface surface = new Surface();
        private final Layout layout = surface.layout;
        private final Row settings = new Row(SETTINGS);

        int angle(int place, int headSkew, int cylinderSkew) {
            int sectors = layout.sectorsAt.at(place);
            if (sectors <= 0) {
                return 0;
            }
            int along = layout.sectorOf.at(place) + headSkew * layout.headOf.at(place)
                    + cylinderSkew * layout.cylinderOf.at(place);
            return along % sectors * (TURN / sectors);
        }

        // The skews are arguments because bestSkew tries others than those that are set.
        int duration(int address, int n, int headSkew, int cylinderSkew) {
            int time = 0;
            int from = surface.placeOf.at(address);
            for (int i = 0; i < n; i++) {
                int to = surface.placeOf.at(address + i);
                time += travel(from, to);
                time += Math.floorMod(angle(to, headSkew, cylinderSkew) - time, TURN);
                time += passing(to);
                from = to;
            }
            return time;
        }

        private int travel(int from, int to) {
            int apart = Math.abs(layout.cylinderOf.at(to) - layout.cylinderOf.at(from));
            int switching = layout.headOf.at(to) == layout.headOf.at(from) ? 0 : settings.at(HEAD_TICKS);
            return switching + apart * settings.at(CYLINDER_TICKS);
        }

        private int passing(int place) {
            int sectors = layout.sectorsAt.at(place);
            return sectors > 0 ? TURN / sectors : 0;
        }

        int sumOfEachAlone() {
            int sum = 0;
            for (int a = 0; a < surface.addresses; a++) {
                sum += duration(a, 1, settings.at(HEAD_SKEW), settings.at(CYLINDER_SKEW));
            }
            return sum;
        }

        int bestSkew(int what) {
            int best = 0;
            int least = 0;
            for (int tried = 0; tried <= MOST_SKEW; tried++) {
                int headSkew = what == HEAD_SKEW ? tried : settings.at(HEAD_SKEW);
                int cylinderSkew = what == CYLINDER_SKEW ? tried : settings.at(CYLINDER_SKEW);
                int taken = duration(0, surface.addresses, headSkew, cylinderSkew);
                if (tried == 0 || taken < least) {
                    best = tried;
                    least = taken;
                }
            }
            return best;
        }
    }

    /** The bits of positive numbers, by arithmetic: halving and doubling lose nothing. */
    private static final class Bits {
        private static final int FLOAT_BIAS = 127, FLOAT_FRACTION = 23;
        private static final int DOUBLE_BIAS = 1023, DOUBLE_FRACTION = 52;

        static int ofFloat(float number) {
            float scaled = number;
            int exponent = FLOAT_BIAS;
            for (int i = 0; i < FLOAT_BIAS && scaled >= 2f; i++) {
                scaled = scaled / 2f;
                exponent++;
            }
            for (int i = 1; i < FLOAT_BIAS && scaled < 1f; i++) {
                scaled = scaled * 2f;
                exponent--;
            }
            int fraction = (int) ((scaled - 1f) * (float) (1 << FLOAT_FRACTION));
            return (exponent << FLOAT_FRACTION) + fraction;
        }

        static long ofDouble(double number) {
            double scaled = number;
            int exponent = DOUBLE_BIAS;
            for (int i = 0; i < DOUBLE_BIAS && scaled >= 2d; i++) {
                scaled = scaled / 2d;
                exponent++;
            }
            for (int i = 1; i < DOUBLE_BIAS && scaled < 1d; i++) {
                scaled = scaled * 2d;
                exponent--;
            }
            long fraction = (long) ((scaled - 1d) * (double) (1L << DOUBLE_FRACTION));
            return ((long) exponent << DOUBLE_FRACTION) + fraction;
        }
    }
}
