import java.util.ArrayList;
import java.util.List;
import java.util.TreeSet;
import java.util.regex.Matcher;
import java.util.regex.Pattern;

/** The document once more, written in another way and with the whole Java library: RandomRunsTest holds the class against it. */
final class Model {
    private enum Use { ADDRESS, FREE, TAKEN, SLIPPED, REPLACED }

    private static final class Spot {
        int number, cylinder, head, sector, zone, sectors, how;
        Use use = Use.ADDRESS;
    }

    private static final Pattern DISK = Pattern.compile("[1-3];[1-4]x[4-9](,[1-4]x[4-9]){0,2}");
    private static final int NONE = -1, UNKNOWN = -1001, OUTSIDE = -1002, STATE = -1003, FULL = -1004;

    private String page = "";
    private boolean there;
    private List<Spot> spots = new ArrayList<>();
    private List<Spot> homes = new ArrayList<>();
    private final TreeSet<Integer> failed = new TreeSet<>();
    private int spares = 1, headSkew, cylinderSkew, headTicks = 200, cylinderTicks = 300, formats, disks;

    int letter(int code) {
        if (code < 32 || code > 126) return OUTSIDE;
        if (page.length() == 13) return FULL;
        page += (char) code;
        return page.length();
    }

    int blank() {
        int n = page.length();
        page = "";
        return n;
    }

    int fault() {
        for (int n = page.length(); n > 0; n--) {
            Matcher m = DISK.matcher(page.substring(0, n));
            if (m.matches() || m.hitEnd()) return n;
        }
        return 0;
    }

    int disk() {
        if (!DISK.matcher(page).matches()) return STATE;
        String[] halves = page.split(";");
        spots = new ArrayList<>();
        int zone = 0, cylinder = 0;
        for (String part : halves[1].split(",")) {
            String[] numbers = part.split("x");
            for (int c = 0; c < Integer.parseInt(numbers[0]); c++, cylinder++) {
                for (int head = 0; head < Integer.parseInt(halves[0]); head++) {
                    for (int sector = 0; sector < Integer.parseInt(numbers[1]); sector++) {
                        Spot s = new Spot();
                        s.number = spots.size();
                        s.cylinder = cylinder;
                        s.head = head;
                        s.sector = sector;
                        s.zone = zone;
                        s.sectors = Integer.parseInt(numbers[1]);
                        spots.add(s);
                    }
                }
            }
            zone++;
        }
        there = true;
        disks++;
        page = "";
        layOut(false);
        return spots.size();
    }

    private void layOut(boolean certified) {
        failed.clear();
        for (Spot s : spots) {
            boolean slipped = s.use == Use.SLIPPED || s.use == Use.REPLACED || (certified && s.how > 0);
            s.use = slipped ? Use.SLIPPED : Use.ADDRESS;
        }
        for (int zone = 0; zone < 3; zone++) {
            List<Spot> usable = new ArrayList<>();
            for (Spot s : spots) {
                if (s.zone == zone && s.use != Use.SLIPPED) usable.add(s);
            }
            for (Spot s : usable.subList(Math.max(0, usable.size() - spares), usable.size())) s.use = Use.FREE;
        }
        homes = new ArrayList<>();
        for (Spot s : spots) {
            if (s.use == Use.ADDRESS) homes.add(s);
        }
    }

    int set(int what, int v) {
        int[] most = {4, 8, 8, 999, 999};
        if (what < 0 || what > 4 || v < 0 || v > most[what]) return OUTSIDE;
        int was = count(8 + what);
        if (what == 0) spares = v;
        if (what == 1) headSkew = v;
        if (what == 2) cylinderSkew = v;
        if (what == 3) headTicks = v;
        if (what == 4) cylinderTicks = v;
        return was;
    }

    int harm(int place, int how) {
        if (!isSpot(place)) return UNKNOWN;
        if (how < 0 || how > 2) return OUTSIDE;
        int was = spots.get(place).how;
        spots.get(place).how = how;
        return was;
    }

    int format(boolean certified) {
        if (!there) return STATE;
        formats++;
        layOut(certified);
        return homes.size();
    }

    private boolean isSpot(int place) {
        return place >= 0 && place < spots.size();
    }

    private boolean isHome(int address) {
        return address >= 0 && address < homes.size();
    }

    int of(int place, int what) {
        if (!isSpot(place)) return UNKNOWN;
        Spot s = spots.get(place);
        Spot near = nearest(s);
        int[] answers = {s.cylinder, s.head, s.sector, s.zone, s.how, s.use.ordinal(), angle(s, headSkew, cylinderSkew),
            homes.indexOf(s), near == null ? NONE : near.number};
        return what < 0 || what >= answers.length ? OUTSIDE : answers[what];
    }

    private Spot nearest(Spot from) {
        return spots.stream().filter(s -> s.use == Use.FREE && s.how != 2)
            .min((s, t) -> Math.abs(s.cylinder - from.cylinder) != Math.abs(t.cylinder - from.cylinder)
                ? Math.abs(s.cylinder - from.cylinder) - Math.abs(t.cylinder - from.cylinder) : s.number - t.number)
            .orElse(null);
    }

    private static int angle(Spot s, int headSkew, int cylinderSkew) {
        return (s.sector + headSkew * s.head + cylinderSkew * s.cylinder) % s.sectors * (2520 / s.sectors);
    }

    int place(int address) {
        return isHome(address) ? homes.get(address).number : UNKNOWN;
    }

    int as(int place, int kind) {
        if (!isSpot(place)) return UNKNOWN;
        if (kind < 0 || kind > 2) return OUTSIDE;
        boolean home = homes.contains(spots.get(place));
        return kind == 0 || home == (kind == 1) ? place : NONE;
    }

    int read(int address) {
        if (!isHome(address)) return UNKNOWN;
        if (homes.get(address).how == 0) return 0;
        failed.add(address);
        return 1;
    }

    int write(int address) {
        if (!isHome(address)) return UNKNOWN;
        Spot s = homes.get(address);
        int answer = s.how;
        if (s.how == 2) {
            Spot near = nearest(s);
            if (near == null) {
                failed.add(address);
                return 3;
            }
            s.use = Use.REPLACED;
            near.use = Use.TAKEN;
            homes.set(address, near);
            s = near;
        }
        s.how = 0;
        failed.remove(address);
        return answer;
    }

    int pending(int place) {
        return place < 0 || place >= failed.size() ? UNKNOWN : new ArrayList<>(failed).get(place);
    }

    int runs(int what) {
        if (what < 0 || what > 2) return OUTSIDE;
        if (!there) return STATE;
        List<int[]> runs = new ArrayList<>();
        int[] longest = {NONE, 0};
        for (int a = 0; a < homes.size(); a++) {
            if (a == 0 || homes.get(a).number - homes.get(a - 1).number != 1) runs.add(new int[] {a, 0});
            runs.get(runs.size() - 1)[1]++;
        }
        for (int[] run : runs) {
            if (run[1] > longest[1]) longest = run;
        }
        return what == 0 ? runs.size() : what == 1 ? longest[1] : longest[0];
    }

    int ticks(int address, int n) {
        if (!isHome(address)) return UNKNOWN;
        if (n < 1 || (long) address + n > homes.size()) return OUTSIDE;
        return time(address, n, headSkew, cylinderSkew);
    }

    private int time(int address, int n, int byHead, int byCylinder) {
        int time = 0;
        Spot ahead = homes.get(address);
        for (Spot s : homes.subList(address, address + n)) {
            if (s.head != ahead.head) time += headTicks;
            time += cylinderTicks * Math.max(s.cylinder - ahead.cylinder, ahead.cylinder - s.cylinder);
            int start = time / 2520 * 2520 + angle(s, byHead, byCylinder);
            time = (start < time ? start + 2520 : start) + 2520 / s.sectors;
            ahead = s;
        }
        return time;
    }

    int rate(int address, int n) {
        int ticks = ticks(address, n);
        return ticks < 0 ? ticks : Float.floatToIntBits((float) n * 2520 / ticks);
    }

    long mean() {
        if (homes.isEmpty()) return STATE;
        double sum = 0;
        for (int a = 0; a < homes.size(); a++) sum += ticks(a, 1);
        return Double.doubleToLongBits(sum / homes.size());
    }

    int skew(int what) {
        if (what != 1 && what != 2) return OUTSIDE;
        if (homes.isEmpty()) return STATE;
        int best = 8;
        for (int s = 8; s >= 0; s--) {
            if (skewed(what, s) <= skewed(what, best)) best = s;
        }
        return best;
    }

    private int skewed(int what, int s) {
        return what == 1 ? time(0, homes.size(), s, cylinderSkew) : time(0, homes.size(), headSkew, s);
    }

    private int used(Use use) {
        return (int) spots.stream().filter(s -> s.use == use).count();
    }

    int count(int what) {
        int[] answers = {page.length(), spots.size(), homes.size(), used(Use.SLIPPED), used(Use.REPLACED), used(Use.FREE),
            used(Use.TAKEN), failed.size(), spares, headSkew, cylinderSkew, headTicks, cylinderTicks, formats, disks};
        return what < 0 || what >= answers.length ? OUTSIDE : answers[what];
    }

    long digest() {
        List<Long> all = new ArrayList<>();
        for (Spot s : spots) {
            all.add((long) s.how);
            all.add((long) s.use.ordinal());
            all.add((long) homes.indexOf(s));
        }
        for (Spot s : homes) all.add((long) s.number);
        for (int a : failed) all.add((long) a);
        for (int what = 0; there && what < 3; what++) all.add((long) runs(what));
        if (!homes.isEmpty()) {
            all.add((long) ticks(0, homes.size()));
            all.add((long) rate(0, homes.size()));
            all.add(mean());
            all.add((long) skew(1));
            all.add((long) skew(2));
        }
        for (char c : page.toCharArray()) all.add((long) c);
        for (int what = 0; what < 15; what++) all.add((long) count(what));
        long h = 1733;
        for (long number : all) h = 31 * h + number;
        return h;
    }
}
