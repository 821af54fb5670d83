import java.math.BigInteger;
import java.util.ArrayList;
import java.util.List;
import java.util.TreeMap;
import java.util.regex.Matcher;
import java.util.regex.Pattern;

/**
 * The document once more, written for the tests alone and in another way (texts, lists, patterns, real
 * arrays of bytes, shorts and ints), so that a slip in the class and one here seldom fall together.
 */
final class Model {
    static final int NONE = -1, BAD = -2, NOT = -3, FULL = -4;
    private static final Pattern[] WELL = {
        Pattern.compile("([sfl][1-9](;[sfl][1-9]){0,7})?"), Pattern.compile("[0-3]*"), Pattern.compile("[lr-]*")};
    private static final int[] ROOM = {23, 24, 24};

    private final String[] texts = {"", "", ""};
    private final List<int[]> events = new ArrayList<>();
    private final List<int[]> seen = new ArrayList<>();
    private final Object[] sheets = new Object[4];
    private int stream = 3;
    private int home = 300;
    private int finding = 0;

    /** What is behind a minute; pull[seat] is NONE where one does not pull. */
    private record Behind(int metres, int place, boolean aground, int[] pull) {
        int side(int side) {
            int sum = 0;
            for (int seat = side; seat < pull.length; seat += 2) sum += Math.max(0, pull[seat]);
            return sum;
        }
    }

    // ---- telling

    int type(int text, int b) {
        if (text < 0 || text > 2 || b < 0 || b > 255) return BAD;
        if (texts[text].length() == ROOM[text]) return FULL;
        texts[text] += (char) b;
        return texts[text].length();
    }

    int wipe(int text) {
        if (text < 0 || text > 2) return BAD;
        int had = texts[text].length();
        texts[text] = "";
        return had;
    }

    int undo(int text) {
        if (text < 0 || text > 2) return BAD;
        if (texts[text].isEmpty()) return NOT;
        texts[text] = texts[text].substring(0, texts[text].length() - 1);
        return texts[text].length();
    }

    int fault(int text) {
        if (text < 0 || text > 2) return BAD;
        String t = texts[text];
        for (int end = 1; end <= t.length(); end++) {
            Matcher m = WELL[text].matcher(t.substring(0, end));
            if (!m.matches() && !m.hitEnd()) return end - 1;
        }
        return WELL[text].matcher(t).matches() ? NONE : t.length();
    }

    private String well(int text) {
        return fault(text) == NONE ? texts[text] : "";
    }

    private String[] crew() {
        return well(0).isEmpty() ? new String[0] : well(0).split(";");
    }

    private String rates() {
        return (well(1) + "2".repeat(24)).substring(0, 24);
    }

    private String rudder() {
        return (well(2) + "-".repeat(24)).substring(0, 24);
    }

    int rower(int seat, int what) {
        if (seat < 0 || seat >= crew().length || what < 0 || what > 1) return BAD;
        return what == 0 ? "sfl".indexOf(crew()[seat].charAt(0)) : crew()[seat].charAt(1) - '0';
    }

    int call(int minute, int what) {
        if (minute < 0 || minute > 23 || what < 0 || what > 1) return BAD;
        return what == 0 ? rates().charAt(minute) - '0' : "-lr".indexOf(rudder().charAt(minute));
    }

    int river(int what, int v) {
        if (what == 0 && v >= 0 && v <= 9) {
            int was = stream;
            stream = v;
            return was;
        }
        if (what == 1 && v >= 50 && v <= 999) {
            int was = home;
            home = v;
            return was;
        }
        return BAD;
    }

    int event(int kind, int minute, int number) {
        if (kind < 0 || kind > 2 || minute < 0 || minute > 23 || number < 0 || number > 7) return BAD;
        if (events.size() == 8) return FULL;
        events.add(new int[] {kind, minute, number});
        return events.size();
    }

    int back() {
        if (events.isEmpty()) return NOT;
        events.remove(events.size() - 1);
        return events.size();
    }

    int read(int s) {
        if (s < 0 || s > 3) return BAD;
        if (sheets[s] == null) return found(1);
        int taken = 0;
        while (3 * taken + 2 < length(s)
            && event(item(s, 3 * taken), item(s, 3 * taken + 1), item(s, 3 * taken + 2)) > 0) taken++;
        return taken;
    }

    // ---- minutes

    private List<Behind> row(String[] crew, String rates, String rudder, List<int[]> what) {
        List<Behind> trip = new ArrayList<>();
        int metres = 0;
        int place = 10;
        int[] pulled = new int[crew.length];
        for (int minute = 0; minute < 24; minute++) {
            int[] pull = new int[crew.length];
            java.util.Arrays.fill(pull, NONE);
            boolean aground = false;
            if (metres < home) {
                int rate = rates.charAt(minute) - '0';
                int water = stream;
                int aside = "l-r".indexOf(rudder.charAt(minute)) - 1;
                for (int seat = 0; seat < crew.length && rate > 0; seat++) {
                    if (isCrab(what, minute, seat)) continue;
                    pull[seat] = crew[seat].charAt(1) - '0' + more(crew[seat].charAt(0), pulled[seat]);
                    pulled[seat]++;
                }
                for (int[] e : what) {
                    if (e[1] == minute && e[0] == 1) aside += e[2] % 2 == 0 ? -2 : 2;
                    if (e[1] == minute && e[0] == 2) water += 3;
                }
                Behind pullers = new Behind(0, 0, false, pull);
                int left = pullers.side(0);
                int right = pullers.side(1);
                aside += left > right ? rate * (left - right) / 6 : -(rate * (right - left) / 6);
                int on = rate * ((left + right) / 2) + water;
                place += aside;
                aground = place <= 0 || place >= 20;
                place = place < 0 ? 0 : place > 20 ? 20 : place;
                metres += aground ? on / 2 : on;
            }
            trip.add(new Behind(metres, place, aground, pull));
        }
        return trip;
    }

    private static boolean isCrab(List<int[]> what, int minute, int seat) {
        return what.stream().anyMatch(e -> e[0] == 0 && e[1] == minute && e[2] == seat);
    }

    private static int more(char sort, int before) {
        if (sort == 'f') return before < 6 ? 2 : -1;
        if (sort == 'l') return before < 6 ? -1 : 1;
        return 0;
    }

    private List<Behind> told() {
        return row(crew(), rates(), rudder(), events);
    }

    int at(int minute, int what) {
        if (minute < 0 || minute > 23 || what < 0 || what > 4) return BAD;
        Behind b = told().get(minute);
        return new int[] {b.metres, b.place, b.side(0), b.side(1), b.aground ? 1 : 0}[what];
    }

    int pulls(int minute, int seat) {
        if (minute < 0 || minute > 23 || seat < 0 || seat >= crew().length) return BAD;
        return Math.max(0, told().get(minute).pull[seat]);
    }

    int done(int seat, int what) {
        if (seat < 0 || seat >= crew().length || what < 0 || what > 1) return BAD;
        if (what == 0) return (int) told().stream().filter(b -> b.pull[seat] != NONE).count();
        return told().stream().mapToInt(b -> Math.max(0, b.pull[seat])).sum();
    }

    int there() {
        List<Behind> trip = told();
        for (int minute = 0; minute < 24; minute++) if (trip.get(minute).metres >= home) return minute;
        return NONE;
    }

    private static int firstAground(List<Behind> trip) {
        for (int minute = 0; minute < 24; minute++) if (trip.get(minute).aground) return minute;
        return NONE;
    }

    int grounded(int what) {
        if (what < 0 || what > 1) return BAD;
        return what == 0 ? (int) told().stream().filter(Behind::aground).count() : firstAground(told());
    }

    private static int lastStray(List<Behind> trip) {
        return Math.abs(trip.get(23).place - 10);
    }

    int stray(int what) {
        if (what < 0 || what > 1) return BAD;
        return what == 0 ? lastStray(told()) : told().stream().mapToInt(b -> Math.abs(b.place - 10)).max().getAsInt();
    }

    int best() {
        int best = NONE;
        for (int seat = crew().length - 1; seat >= 0; seat--) {
            if (done(seat, 0) > 0 && (best == NONE || done(seat, 1) >= done(best, 1))) best = seat;
        }
        return best;
    }

    int idle() {
        int bits = 0;
        for (int seat = 0; seat < crew().length; seat++) if (done(seat, 0) == 0) bits += 1 << seat;
        return bits;
    }

    // ---- plans

    int swap(int what) {
        if (what < 0 || what > 2) return BAD;
        int[] best = {NONE, NONE, NONE};
        for (int a = 0; a < crew().length; a++) {
            for (int b = a + 1; b < crew().length; b++) {
                String[] crew = crew();
                String first = crew[a];
                crew[a] = crew[b];
                crew[b] = first;
                int metres = row(crew, rates(), rudder(), events).get(23).metres;
                if (metres > best[2]) best = new int[] {a, b, metres};
            }
        }
        return best[what];
    }

    private static String with(String text, int place, char c) {
        return text.substring(0, place) + c + text.substring(place + 1);
    }

    int steer(int minute, int what) {
        if (minute < 0 || minute > 23 || what < 0 || what > 1) return BAD;
        TreeMap<Integer, Integer> waysByStray = new TreeMap<>();
        for (int way = 2; way >= 0; way--) {
            waysByStray.put(lastStray(row(crew(), rates(), with(rudder(), minute, "-lr".charAt(way)), events)), way);
        }
        return what == 0 ? waysByStray.firstEntry().getValue() : waysByStray.firstKey();
    }

    int stroke(int minute, int what) {
        if (minute < 0 || minute > 23 || what < 0 || what > 1) return BAD;
        TreeMap<Integer, Integer> ratesByMetres = new TreeMap<>();
        for (int rate = 3; rate >= 0; rate--) {
            String rates = with(rates(), minute, (char) ('0' + rate));
            ratesByMetres.put(row(crew(), rates, rudder(), events).get(23).metres, rate);
        }
        return what == 0 ? ratesByMetres.lastEntry().getValue() : ratesByMetres.lastKey();
    }

    private List<int[]> without(int... gone) {
        List<int[]> left = new ArrayList<>(events);
        for (int i = gone.length - 1; i >= 0; i--) left.remove(gone[i]);
        return left;
    }

    private boolean isSafe(int... gone) {
        return firstAground(row(crew(), rates(), rudder(), without(gone))) == NONE;
    }

    private int[] spared() {
        if (isSafe()) return new int[0];
        for (int a = 0; a < events.size(); a++) if (isSafe(a)) return new int[] {a};
        for (int a = 0; a < events.size(); a++) {
            for (int b = a + 1; b < events.size(); b++) if (isSafe(a, b)) return new int[] {a, b};
        }
        return null;
    }

    int spare(int i) {
        if (i < -1 || i > 1) return BAD;
        int[] spared = spared();
        if (spared == null) return NONE;
        if (i == NONE) return spared.length;
        return i < spared.length ? spared[i] : NONE;
    }

    // ---- seen, chance, years

    int seen(int minute, int place) {
        if (minute < 0 || minute > 23 || place < 0 || place > 20) return BAD;
        if (seen.size() == 8) return FULL;
        seen.add(new int[] {minute, place});
        return seen.size();
    }

    int forget() {
        int had = seen.size();
        seen.clear();
        return had;
    }

    private boolean fits(List<Behind> trip) {
        return seen.stream().allMatch(s -> trip.get(s[0]).place == s[1]);
    }

    int never() {
        int bits = 0;
        for (int e = 0; e < events.size(); e++) {
            if (fits(row(crew(), rates(), rudder(), without(e)))) bits += 1 << e;
        }
        return bits;
    }

    private List<Behind> rowWith(int seat, String rower) {
        String[] crew = crew();
        crew[seat] = rower;
        return row(crew, rates(), rudder(), events);
    }

    int was(int seat, int what) {
        if (seat < 0 || seat >= crew().length || what < 0 || what > 1) return BAD;
        String own = crew()[seat];
        int bits = 0;
        for (int v = 0; v <= 9; v++) {
            if (what == 0 ? v == 0 : v > 2) continue;
            String rower = what == 0 ? own.substring(0, 1) + v : "sfl".charAt(v) + own.substring(1);
            if (fits(rowWith(seat, rower))) bits += 1 << v;
        }
        return bits;
    }

    int ask(int seat) {
        if (seat < 0 || seat >= crew().length) return BAD;
        List<List<Behind>> trips = new ArrayList<>();
        for (int power = 1; power <= 9; power++) {
            if ((was(seat, 0) & 1 << power) != 0) trips.add(rowWith(seat, crew()[seat].substring(0, 1) + power));
        }
        int best = 0;
        long least = 100;
        for (int minute = 0; minute < 24; minute++) {
            long most = 0;
            for (int place = 0; place <= 20; place++) {
                int m = minute;
                int p = place;
                most = Math.max(most, trips.stream().filter(t -> t.get(m).place == p).count());
            }
            if (most < least) {
                least = most;
                best = minute;
            }
        }
        return best;
    }

    private BigInteger aground(int c, int minute, int e, List<int[]> chosen) {
        if (e == events.size()) {
            int first = firstAground(row(crew(), rates(), rudder(), chosen));
            return first != NONE && first <= minute ? BigInteger.ONE : BigInteger.ZERO;
        }
        List<int[]> more = new ArrayList<>(chosen);
        more.add(events.get(e));
        return aground(c, minute, e + 1, more).multiply(BigInteger.valueOf(c))
            .add(aground(c, minute, e + 1, chosen).multiply(BigInteger.valueOf(16 - c)));
    }

    long chance(int c, int minute, int what) {
        if (c < 0 || c > 16 || minute < 0 || minute > 23 || what < 0 || what > 1) return Long.MIN_VALUE + 2;
        BigInteger above = aground(c, minute, 0, new ArrayList<>());
        BigInteger below = BigInteger.valueOf(16).pow(events.size());
        BigInteger common = above.gcd(below);
        return (what == 0 ? above : below).divide(common).longValueExact();
    }

    int years(int seed, int n, int what) {
        if (n < 0 || n > 24 || what < 0 || what > 1) return BAD;
        StringBuilder rates = new StringBuilder();
        BigInteger lot = BigInteger.valueOf(seed);
        for (int i = 0; i < n; i++) {
            lot = lot.multiply(BigInteger.valueOf(1103515245)).add(BigInteger.valueOf(12345)).mod(BigInteger.TWO.pow(32));
            rates.append(lot.shiftRight(16).mod(BigInteger.valueOf(4)));
        }
        Behind last = row(crew(), (rates + "2".repeat(24)).substring(0, 24), rudder(), events).get(23);
        return what == 0 ? last.metres : last.place;
    }

    // ---- sheets

    private int found(int number) {
        finding = number;
        return -10 - number;
    }

    private int length(int s) {
        return java.lang.reflect.Array.getLength(sheets[s]);
    }

    private int form(int s) {
        return sheets[s] instanceof byte[] ? 0 : sheets[s] instanceof short[] ? 1 : 2;
    }

    private int item(int s, int i) {
        return java.lang.reflect.Array.getInt(sheets[s], i);
    }

    private void keep(int s, int i, int v) {
        if (sheets[s] instanceof byte[] b) b[i] = (byte) v;
        if (sheets[s] instanceof short[] h) h[i] = (short) v;
        if (sheets[s] instanceof int[] n) n[i] = v;
    }

    int sheet(int s, int form, int n) {
        if (s < 0 || s > 3 || form < 0 || form > 2 || n > 60) return BAD;
        if (n < 0) return found(5);
        sheets[s] = form == 0 ? new byte[n] : form == 1 ? new short[n] : new int[n];
        return n;
    }

    int lose(int s) {
        if (s < 0 || s > 3) return BAD;
        if (sheets[s] == null) return found(1);
        int had = length(s);
        sheets[s] = null;
        return had;
    }

    int put(int s, int form, int i, int v) {
        if (s < 0 || s > 3 || form < 0 || form > 2) return BAD;
        if (sheets[s] == null) return found(1);
        if (form(s) != form) return found(3);
        if (i < 0 || i >= length(s)) return found(2);
        keep(s, i, v);
        return 1;
    }

    int get(int s, int form, int i) {
        if (s < 0 || s > 3 || form < 0 || form > 2) return Integer.MIN_VALUE;
        int wrong = sheets[s] == null ? 1 : form(s) != form ? 3 : i < 0 || i >= length(s) ? 2 : 0;
        if (wrong == 0) return item(s, i);
        finding = wrong;
        return Integer.MIN_VALUE;
    }

    int copy(int s, int i, int t, int j, int n) {
        if (s < 0 || s > 3 || t < 0 || t > 3) return BAD;
        if (sheets[s] == null || sheets[t] == null) return found(1);
        if (form(s) != form(t)) return found(4);
        if (i < 0 || j < 0 || n < 0 || (long) i + n > length(s) || (long) j + n > length(t)) return found(2);
        int[] items = new int[n];
        for (int k = 0; k < n; k++) items[k] = item(s, i + k);
        for (int k = 0; k < n; k++) keep(t, j + k, items[k]);
        return 1;
    }

    int write(int what, int s) {
        if (what < 0 || what > 1 || s < 0 || s > 3) return BAD;
        if (sheets[s] == null) return found(1);
        int minute = 0;
        for (; minute < length(s) && minute < 24; minute++) keep(s, minute, at(minute, what));
        return minute;
    }

    int count(int what) {
        if (what < 0 || what > 8) return BAD;
        int bytes = texts[0].length() + texts[1].length() + texts[2].length();
        return new int[] {crew().length, well(1).length(), well(2).length(), bytes, events.size(), stream, home,
            seen.size(), finding}[what];
    }
}
