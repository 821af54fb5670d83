import java.util.Arrays;

/**
 * A rowing eight on a river: who rows, at what rate, under which rudder, what happens on the way,
 * where the boat is when, and what had better be otherwise. The promises stand in shared/DOC.md.
 */
public final class RowingEight {
    public static final int NONE = -1, BAD = -2, NOT = -3, FULL = -4;

    private static final int SEATS = 8, EVERY_SEAT = (1 << SEATS) - 1;
    private static final int MINUTES = 24, LAST = MINUTES - 1;
    private static final int TEXTS = 3, CREW = 0, RATES = 1, RUDDER = 2;
    private static final int STEADY = 0, FIERY = 1, LATE = 2, SORTS = 3, TOP_POWER = 9;
    private static final int USUAL_RATE = 2, TOP_RATE = 3, FRESH_MINUTES = 6;
    private static final int STRAIGHT = 0, TO_LEFT = 1, TO_RIGHT = 2, WAYS = 3;
    private static final int TOP_STREAM = 9, NEAREST_HOME = 50, FARTHEST_HOME = 999;
    private static final int MIDDLE = 10, RIGHT_BANK = 20, PLACES = RIGHT_BANK + 1;
    private static final int MOST_EVENTS = 8, KINDS = 3, CRAB = 0, GUST = 1;
    private static final int ALL_EVENTS = (1 << MOST_EVENTS) - 1, MOST_SPARED = 2;
    private static final int MOST_SEEN = 8, CERTAIN = 16;
    private static final int SHEETS = 4, FORMS = 3, BYTES = 0, SHORTS = 1, MOST_ITEMS = 60;
    private static final int NULL = 1, INDEX = 2, CAST = 3, STORE = 4, SIZE = 5;
    private static final int UNKNOWN = -9;

    private final Text[] texts = new Text[TEXTS];
    private final Events events = new Events();
    private final Seen sightings = new Seen();
    private final Sheet[] sheets = new Sheet[SHEETS];
    private int finding = 0;

    private final Course told = new Course();
    private final Trip trip = new Trip();
    /** What-if answers change this course and row this trip, so that what was told stays as it is. */
    private final Course other = new Course();
    private final Trip trial = new Trip();

    /** The first minute aground for each set of events, or UNKNOWN: chance() and spare() share it. */
    private final int[] groundings = new int[ALL_EVENTS + 1];
    private final int[][] placesByPower = new int[TOP_POWER + 1][MINUTES];
    private final int[] tally = new int[PLACES];
    private boolean tripIsStale = true;
    private boolean groundingsAreStale = true;

    public RowingEight() {
        texts[CREW] = new Text(3 * SEATS - 1);
        texts[RATES] = new Text(MINUTES);
        texts[RUDDER] = new Text(MINUTES);
        for (int s = 0; s < SHEETS; s++) {
            sheets[s] = new Sheet();
        }
    }

    // ---- rowers, rates, the rudder, the river, events

    public int type(int text, int b) {
        if (!isBelow(text, TEXTS) || !isBelow(b, 256)) {
            return BAD;
        }
        Text t = texts[text];
        if (t.length >= t.bytes.length) {
            return FULL;
        }
        t.bytes[t.length] = b;
        t.length++;
        retell(text);
        return t.length;
    }

    public int wipe(int text) {
        if (!isBelow(text, TEXTS)) {
            return BAD;
        }
        int had = texts[text].length;
        texts[text].length = 0;
        retell(text);
        return had;
    }

    public int undo(int text) {
        if (!isBelow(text, TEXTS)) {
            return BAD;
        }
        if (texts[text].length == 0) {
            return NOT;
        }
        texts[text].length--;
        retell(text);
        return texts[text].length;
    }

    public int fault(int text) {
        if (!isBelow(text, TEXTS)) {
            return BAD;
        }
        return text == CREW ? texts[CREW].crewFault() : texts[text].signFault(text == RATES);
    }

    public int rower(int seat, int what) {
        if (!isRower(seat) || !isBelow(what, 2)) {
            return BAD;
        }
        return what == 0 ? told.sort[seat] : told.power[seat];
    }

    public int call(int minute, int what) {
        if (!isBelow(minute, MINUTES) || !isBelow(what, 2)) {
            return BAD;
        }
        return what == 0 ? told.rate[minute] : told.rudder[minute];
    }

    public int river(int what, int v) {
        if (what == 0) {
            return tellStream(v);
        }
        return what == 1 ? tellHome(v) : BAD;
    }

    private int tellStream(int v) {
        if (!isBelow(v, TOP_STREAM + 1)) {
            return BAD;
        }
        int was = told.stream;
        told.stream = v;
        markChanged();
        return was;
    }

    private int tellHome(int v) {
        if (v < NEAREST_HOME || v > FARTHEST_HOME) {
            return BAD;
        }
        int was = told.home;
        told.home = v;
        markChanged();
        return was;
    }

    public int event(int kind, int minute, int number) {
        if (!isBelow(kind, KINDS) || !isBelow(minute, MINUTES) || !isBelow(number, SEATS)) {
            return BAD;
        }
        if (events.size >= MOST_EVENTS) {
            return FULL;
        }
        events.append(kind, minute, number);
        markChanged();
        return events.size;
    }

    public int back() {
        if (events.size == 0) {
            return NOT;
        }
        events.size--;
        markChanged();
        return events.size;
    }

    public int read(int s) {
        if (!isBelow(s, SHEETS)) {
            return BAD;
        }
        Sheet from = sheets[s];
        if (from.isLost) {
            return find(NULL);
        }
        int taken = 0;
        for (int i = 0; i + 2 < from.size; i += 3) {
            if (event(from.items[i], from.items[i + 1], from.items[i + 2]) < 0) {
                break;
            }
            taken++;
        }
        return taken;
    }

    // ---- minutes

    public int at(int minute, int what) {
        if (!isBelow(minute, MINUTES)) {
            return BAD;
        }
        Trip t = toldTrip();
        switch (what) {
            case 0: return t.metres[minute];
            case 1: return t.place[minute];
            case 2: return t.left[minute];
            case 3: return t.right[minute];
            case 4: return t.aground[minute];
            default: return BAD;
        }
    }

    public int pulls(int minute, int seat) {
        if (!isBelow(minute, MINUTES) || !isRower(seat)) {
            return BAD;
        }
        return toldTrip().pull[minute][seat];
    }

    public int done(int seat, int what) {
        if (!isRower(seat) || !isBelow(what, 2)) {
            return BAD;
        }
        Trip t = toldTrip();
        return what == 0 ? t.minutesOf[seat] : t.pulledBy[seat];
    }

    public int there() {
        return toldTrip().home;
    }

    public int grounded(int what) {
        if (!isBelow(what, 2)) {
            return BAD;
        }
        return what == 0 ? toldTrip().minutesAground() : toldTrip().firstAground();
    }

    public int stray(int what) {
        if (!isBelow(what, 2)) {
            return BAD;
        }
        return what == 0 ? toldTrip().lastStray() : toldTrip().farthestStray();
    }

    public int best() {
        Trip t = toldTrip();
        int most = NONE;
        for (int seat = 0; seat < told.rowers; seat++) {
            // Who pulls by 0 pulls too, so minutes tell whether one ever pulls, not what comes of it.
            if (t.minutesOf[seat] > 0 && (most == NONE || t.pulledBy[seat] > t.pulledBy[most])) {
                most = seat;
            }
        }
        return most;
    }

    public int idle() {
        Trip t = toldTrip();
        int bits = 0;
        for (int seat = 0; seat < told.rowers; seat++) {
            if (t.minutesOf[seat] == 0) {
                bits |= 1 << seat;
            }
        }
        return bits;
    }

    // ---- plans

    public int swap(int what) {
        if (!isBelow(what, 3)) {
            return BAD;
        }
        int first = NONE;
        int second = NONE;
        int farthest = NONE;
        for (int a = 0; a < told.rowers; a++) {
            for (int b = a + 1; b < told.rowers; b++) {
                int metres = metresSwapped(a, b);
                if (metres > farthest) {
                    first = a;
                    second = b;
                    farthest = metres;
                }
            }
        }
        if (what == 0) {
            return first;
        }
        return what == 1 ? second : farthest;
    }

    private int metresSwapped(int a, int b) {
        other.take(told);
        other.sort[a] = told.sort[b];
        other.power[a] = told.power[b];
        other.sort[b] = told.sort[a];
        other.power[b] = told.power[a];
        return rowOther().metres[LAST];
    }

    public int steer(int minute, int what) {
        if (!isBelow(minute, MINUTES) || !isBelow(what, 2)) {
            return BAD;
        }
        other.take(told);
        int best = NONE;
        int least = RIGHT_BANK;
        for (int way = STRAIGHT; way < WAYS; way++) {
            other.rudder[minute] = way;
            int stray = rowOther().lastStray();
            if (stray < least) {
                best = way;
                least = stray;
            }
        }
        return what == 0 ? best : least;
    }

    public int stroke(int minute, int what) {
        if (!isBelow(minute, MINUTES) || !isBelow(what, 2)) {
            return BAD;
        }
        other.take(told);
        int best = NONE;
        int farthest = NONE;
        for (int rate = 0; rate <= TOP_RATE; rate++) {
            other.rate[minute] = rate;
            int metres = rowOther().metres[LAST];
            if (metres > farthest) {
                best = rate;
                farthest = metres;
            }
        }
        return what == 0 ? best : farthest;
    }

    public int spare(int i) {
        if (i < NONE || i >= MOST_SPARED) {
            return BAD;
        }
        int bits = sparedEvents();
        if (bits == NONE) {
            return NONE;
        }
        return i == NONE ? Integer.bitCount(bits) : ithBit(bits, i);
    }

    /** The events that had better not be, as bits, or NONE if no two or less of them help. */
    private int sparedEvents() {
        int all = (1 << events.size) - 1;
        if (firstAgroundWith(all) == NONE) {
            return 0;
        }
        for (int a = 0; a < events.size; a++) {
            if (firstAgroundWith(all & ~(1 << a)) == NONE) {
                return 1 << a;
            }
        }
        for (int a = 0; a < events.size; a++) {
            for (int b = a + 1; b < events.size; b++) {
                int pair = 1 << a | 1 << b;
                if (firstAgroundWith(all & ~pair) == NONE) {
                    return pair;
                }
            }
        }
        return NONE;
    }

    private static int ithBit(int bits, int i) {
        int ahead = 0;
        for (int bit = 0; bit < MOST_EVENTS; bit++) {
            if (hasBit(bits, bit)) {
                if (ahead == i) {
                    return bit;
                }
                ahead++;
            }
        }
        return NONE;
    }

    // ---- seen, chance, years

    public int seen(int minute, int place) {
        if (!isBelow(minute, MINUTES) || !isBelow(place, PLACES)) {
            return BAD;
        }
        if (sightings.size >= MOST_SEEN) {
            return FULL;
        }
        sightings.append(minute, place);
        return sightings.size;
    }

    public int forget() {
        int had = sightings.size;
        sightings.size = 0;
        return had;
    }

    public int never() {
        int bits = 0;
        for (int e = 0; e < events.size; e++) {
            trial.row(told, events, ALL_EVENTS & ~(1 << e));
            if (sightings.agreeWith(trial)) {
                bits |= 1 << e;
            }
        }
        return bits;
    }

    public int was(int seat, int what) {
        if (!isRower(seat) || !isBelow(what, 2)) {
            return BAD;
        }
        return what == 0 ? possiblePowers(seat) : possibleSorts(seat);
    }

    /** Keeps where the boat is by each power that may be: ask() looks at these rows. */
    private int possiblePowers(int seat) {
        other.take(told);
        int bits = 0;
        for (int power = 1; power <= TOP_POWER; power++) {
            other.power[seat] = power;
            if (sightings.agreeWith(rowOther())) {
                bits |= 1 << power;
                System.arraycopy(trial.place, 0, placesByPower[power], 0, MINUTES);
            }
        }
        return bits;
    }

    private int possibleSorts(int seat) {
        other.take(told);
        int bits = 0;
        for (int sort = STEADY; sort < SORTS; sort++) {
            other.sort[seat] = sort;
            if (sightings.agreeWith(rowOther())) {
                bits |= 1 << sort;
            }
        }
        return bits;
    }

    public int ask(int seat) {
        if (!isRower(seat)) {
            return BAD;
        }
        int powers = possiblePowers(seat);
        int best = 0;
        int least = TOP_POWER + 1;
        for (int minute = 0; minute < MINUTES; minute++) {
            int most = mostAtOnePlace(powers, minute);
            if (most < least) {
                best = minute;
                least = most;
            }
        }
        return best;
    }

    private int mostAtOnePlace(int powers, int minute) {
        Arrays.fill(tally, 0);
        int most = 0;
        for (int power = 1; power <= TOP_POWER; power++) {
            if (hasBit(powers, power)) {
                int place = placesByPower[power][minute];
                tally[place]++;
                most = Math.max(most, tally[place]);
            }
        }
        return most;
    }

    public long chance(int c, int minute, int what) {
        if (!isBelow(c, CERTAIN + 1) || !isBelow(minute, MINUTES) || !isBelow(what, 2)) {
            return Long.MIN_VALUE - BAD;
        }
        long above = 0;
        for (int mask = 0; mask < 1 << events.size; mask++) {
            long weight = weightOf(mask, c);
            if (weight > 0 && isAgroundBy(minute, mask)) {
                above += weight;
            }
        }
        long below = 1L << 4 * events.size;
        // What stands below is a power of 2, so halving is all that lowest terms need.
        for (int i = 0; i < 4 * MOST_EVENTS && below > 1 && above % 2 == 0; i++) {
            above /= 2;
            below /= 2;
        }
        return what == 0 ? above : below;
    }

    private long weightOf(int mask, int c) {
        long weight = 1;
        for (int e = 0; e < events.size; e++) {
            weight *= hasBit(mask, e) ? c : CERTAIN - c;
        }
        return weight;
    }

    private boolean isAgroundBy(int minute, int mask) {
        int first = firstAgroundWith(mask);
        return first != NONE && first <= minute;
    }

    public int years(int seed, int n, int what) {
        if (!isBelow(n, MINUTES + 1) || !isBelow(what, 2)) {
            return BAD;
        }
        other.take(told);
        int lot = seed;
        for (int minute = 0; minute < MINUTES; minute++) {
            lot = 1103515245 * lot + 12345;
            other.rate[minute] = minute < n ? (lot >>> 16) % (TOP_RATE + 1) : USUAL_RATE;
        }
        Trip t = rowOther();
        return what == 0 ? t.metres[LAST] : t.place[LAST];
    }

    // ---- sheets

    public int sheet(int s, int form, int n) {
        if (!isBelow(s, SHEETS) || !isBelow(form, FORMS) || n > MOST_ITEMS) {
            return BAD;
        }
        if (n < 0) {
            return find(SIZE);
        }
        sheets[s].begin(form, n);
        return n;
    }

    public int lose(int s) {
        if (!isBelow(s, SHEETS)) {
            return BAD;
        }
        if (sheets[s].isLost) {
            return find(NULL);
        }
        sheets[s].isLost = true;
        return sheets[s].size;
    }

    public int put(int s, int form, int i, int v) {
        if (!isBelow(s, SHEETS) || !isBelow(form, FORMS)) {
            return BAD;
        }
        int wrong = sheets[s].findingOf(form, i);
        if (wrong != 0) {
            return find(wrong);
        }
        sheets[s].keep(i, v);
        return 1;
    }

    public int get(int s, int form, int i) {
        if (!isBelow(s, SHEETS) || !isBelow(form, FORMS)) {
            return Integer.MIN_VALUE;
        }
        int wrong = sheets[s].findingOf(form, i);
        if (wrong != 0) {
            finding = wrong;
            return Integer.MIN_VALUE;
        }
        return sheets[s].items[i];
    }

    public int copy(int s, int i, int t, int j, int n) {
        if (!isBelow(s, SHEETS) || !isBelow(t, SHEETS)) {
            return BAD;
        }
        Sheet from = sheets[s];
        Sheet to = sheets[t];
        if (from.isLost || to.isLost) {
            return find(NULL);
        }
        if (from.form != to.form) {
            return find(STORE);
        }
        if (!from.hasRange(i, n) || !to.hasRange(j, n)) {
            return find(INDEX);
        }
        System.arraycopy(from.items, i, to.items, j, n);
        return 1;
    }

    public int write(int what, int s) {
        if (!isBelow(what, 2) || !isBelow(s, SHEETS)) {
            return BAD;
        }
        Sheet to = sheets[s];
        if (to.isLost) {
            return find(NULL);
        }
        Trip t = toldTrip();
        int many = Math.min(to.size, MINUTES);
        for (int minute = 0; minute < many; minute++) {
            to.keep(minute, what == 0 ? t.metres[minute] : t.place[minute]);
        }
        return many;
    }

    public int count(int what) {
        switch (what) {
            case 0: return told.rowers;
            case 1: return fault(RATES) == NONE ? texts[RATES].length : 0;
            case 2: return fault(RUDDER) == NONE ? texts[RUDDER].length : 0;
            case 3: return texts[CREW].length + texts[RATES].length + texts[RUDDER].length;
            case 4: return events.size;
            case 5: return told.stream;
            case 6: return told.home;
            case 7: return sightings.size;
            case 8: return finding;
            default: return BAD;
        }
    }

    public long digest() {
        long h = 17;
        for (int what = 0; what < 8; what++) {
            h = 31 * h + count(what);
        }
        for (int text = 0; text < TEXTS; text++) {
            h = 31 * h + fault(text);
        }
        h = addMinutes(h);
        for (int seat = 0; seat < told.rowers; seat++) {
            h = addRower(h, seat);
        }
        h = addPlans(h, 2);
        h = addPlans(h, 10);
        return addWhole(h);
    }

    private long addMinutes(long start) {
        long h = start;
        for (int minute = 0; minute < MINUTES; minute++) {
            h = 31 * h + call(minute, 0);
            h = 31 * h + call(minute, 1);
            for (int what = 0; what < 5; what++) {
                h = 31 * h + at(minute, what);
            }
        }
        return h;
    }

    private long addRower(long start, int seat) {
        long h = start;
        h = 31 * h + rower(seat, 0);
        h = 31 * h + rower(seat, 1);
        h = 31 * h + pulls(0, seat);
        h = 31 * h + pulls(7, seat);
        h = 31 * h + pulls(15, seat);
        h = 31 * h + done(seat, 0);
        h = 31 * h + done(seat, 1);
        h = 31 * h + was(seat, 0);
        h = 31 * h + was(seat, 1);
        return 31 * h + ask(seat);
    }

    private long addPlans(long start, int minute) {
        long h = start;
        h = 31 * h + steer(minute, 0);
        h = 31 * h + steer(minute, 1);
        h = 31 * h + stroke(minute, 0);
        h = 31 * h + stroke(minute, 1);
        h = 31 * h + chance(5, minute, 0);
        return 31 * h + chance(5, minute, 1);
    }

    private long addWhole(long start) {
        long h = start;
        h = 31 * h + there();
        h = 31 * h + grounded(0);
        h = 31 * h + grounded(1);
        h = 31 * h + stray(0);
        h = 31 * h + stray(1);
        h = 31 * h + best();
        h = 31 * h + idle();
        h = 31 * h + swap(0);
        h = 31 * h + swap(1);
        h = 31 * h + swap(2);
        h = 31 * h + spare(NONE);
        h = 31 * h + spare(0);
        h = 31 * h + never();
        h = 31 * h + years(7, 18, 0);
        return 31 * h + years(7, 18, 1);
    }

    // ---- what the calls share

    private static boolean isBelow(int v, int bound) {
        return v >= 0 && v < bound;
    }

    private static boolean hasBit(int bits, int bit) {
        return (bits >> bit & 1) == 1;
    }

    private boolean isRower(int seat) {
        return isBelow(seat, told.rowers);
    }

    private int find(int number) {
        finding = number;
        return -10 - number;
    }

    private void markChanged() {
        tripIsStale = true;
        groundingsAreStale = true;
    }

    private void retell(int text) {
        if (text == CREW) {
            told.takeCrew(texts[CREW]);
        } else if (text == RATES) {
            told.takeRates(texts[RATES]);
        } else {
            told.takeRudder(texts[RUDDER]);
        }
        markChanged();
    }

    private Trip toldTrip() {
        if (tripIsStale) {
            trip.row(told, events, ALL_EVENTS);
            tripIsStale = false;
        }
        return trip;
    }

    private Trip rowOther() {
        trial.row(other, events, ALL_EVENTS);
        return trial;
    }

    /** The first minute aground if only the events of these bits are; NONE. */
    private int firstAgroundWith(int mask) {
        if (groundingsAreStale) {
            Arrays.fill(groundings, UNKNOWN);
            groundingsAreStale = false;
        }
        if (!isBelow(mask, groundings.length)) {
            return NONE;
        }
        if (groundings[mask] == UNKNOWN) {
            trial.row(told, events, mask);
            groundings[mask] = trial.firstAground();
        }
        return groundings[mask];
    }

    /** Bytes that are typed one behind the other. */
    private static final class Text {
        final int[] bytes;
        int length = 0;

        Text(int room) {
            bytes = new int[room];
        }

        /** A ninth rower never begins: the room of this text ends with the eighth. */
        int crewFault() {
            for (int i = 0; i < length; i++) {
                if (!fitsCrew(i % 3, bytes[i])) {
                    return i;
                }
            }
            return length == 0 || length % 3 == 2 ? NONE : length;
        }

        private static boolean fitsCrew(int part, int b) {
            if (part == 0) {
                return b == 's' || b == 'f' || b == 'l';
            }
            return part == 1 ? b >= '1' && b <= '9' : b == ';';
        }

        int signFault(boolean areRates) {
            for (int i = 0; i < length; i++) {
                int b = bytes[i];
                boolean fits = areRates ? b >= '0' && b <= '3' : b == 'l' || b == 'r' || b == '-';
                if (!fits) {
                    return i;
                }
            }
            return NONE;
        }
    }

    /** What happens on the way. */
    private static final class Events {
        final int[] kind = new int[MOST_EVENTS];
        final int[] minute = new int[MOST_EVENTS];
        final int[] number = new int[MOST_EVENTS];
        int size = 0;

        void append(int itsKind, int itsMinute, int itsNumber) {
            kind[size] = itsKind;
            minute[size] = itsMinute;
            number[size] = itsNumber;
            size++;
        }
    }

    /** Where the boat was seen. */
    private static final class Seen {
        final int[] minute = new int[MOST_SEEN];
        final int[] place = new int[MOST_SEEN];
        int size = 0;

        void append(int itsMinute, int itsPlace) {
            minute[size] = itsMinute;
            place[size] = itsPlace;
            size++;
        }

        boolean agreeWith(Trip t) {
            for (int i = 0; i < size; i++) {
                if (t.place[minute[i]] != place[i]) {
                    return false;
                }
            }
            return true;
        }
    }

    /** Who rows, at what rate, under which rudder, on what river. */
    private static final class Course {
        int rowers = 0;
        final int[] sort = new int[SEATS];
        final int[] power = new int[SEATS];
        final int[] rate = new int[MINUTES];
        final int[] rudder = new int[MINUTES];
        int stream = 3;
        int home = 300;

        Course() {
            Arrays.fill(rate, USUAL_RATE);
        }

        void take(Course from) {
            rowers = from.rowers;
            System.arraycopy(from.sort, 0, sort, 0, SEATS);
            System.arraycopy(from.power, 0, power, 0, SEATS);
            System.arraycopy(from.rate, 0, rate, 0, MINUTES);
            System.arraycopy(from.rudder, 0, rudder, 0, MINUTES);
            stream = from.stream;
            home = from.home;
        }

        void takeCrew(Text text) {
            rowers = text.crewFault() == NONE ? (text.length + 1) / 3 : 0;
            for (int seat = 0; seat < rowers; seat++) {
                int b = text.bytes[3 * seat];
                sort[seat] = b == 's' ? STEADY : b == 'f' ? FIERY : LATE;
                power[seat] = text.bytes[3 * seat + 1] - '0';
            }
        }

        void takeRates(Text text) {
            int many = text.signFault(true) == NONE ? text.length : 0;
            for (int minute = 0; minute < MINUTES; minute++) {
                rate[minute] = minute < many ? text.bytes[minute] - '0' : USUAL_RATE;
            }
        }

        void takeRudder(Text text) {
            int many = text.signFault(false) == NONE ? text.length : 0;
            for (int minute = 0; minute < MINUTES; minute++) {
                int b = minute < many ? text.bytes[minute] : '-';
                rudder[minute] = b == 'l' ? TO_LEFT : b == 'r' ? TO_RIGHT : STRAIGHT;
            }
        }
    }

    /** What comes of a course, minute by minute. */
    private static final class Trip {
        final int[] metres = new int[MINUTES];
        final int[] place = new int[MINUTES];
        final int[] left = new int[MINUTES];
        final int[] right = new int[MINUTES];
        final int[] aground = new int[MINUTES];
        final int[][] pull = new int[MINUTES][SEATS];
        final int[] minutesOf = new int[SEATS];
        final int[] pulledBy = new int[SEATS];
        int home = NONE;
        private final int[] freshPull = new int[SEATS];
        private final int[] laterPull = new int[SEATS];
        private final int[] crabs = new int[MINUTES];
        private final int[] aside = new int[MINUTES];
        private final int[] flood = new int[MINUTES];

        /** Rows a course with those of the events whose bits stand in the mask. */
        void row(Course course, Events events, int mask) {
            takeEvents(events, mask);
            takeRowers(course);
            home = NONE;
            int metresNow = 0;
            int placeNow = MIDDLE;
            for (int minute = 0; minute < MINUTES; minute++) {
                aground[minute] = 0;
                pullAll(course, minute);
                if (home == NONE) {
                    placeNow = placeBehind(course, minute, placeNow);
                    metresNow += metresIn(course, minute);
                    if (metresNow >= course.home) {
                        home = minute;
                    }
                }
                metres[minute] = metresNow;
                place[minute] = placeNow;
            }
        }

        private void takeEvents(Events events, int mask) {
            Arrays.fill(crabs, 0);
            Arrays.fill(aside, 0);
            Arrays.fill(flood, 0);
            for (int e = 0; e < events.size; e++) {
                if ((mask >> e & 1) == 0) {
                    continue;
                }
                int minute = events.minute[e];
                if (events.kind[e] == CRAB) {
                    crabs[minute] |= 1 << events.number[e];
                } else if (events.kind[e] == GUST) {
                    aside[minute] += events.number[e] % 2 == 1 ? 2 : -2;
                } else {
                    flood[minute] += 3;
                }
            }
        }

        private void takeRowers(Course course) {
            for (int seat = 0; seat < course.rowers; seat++) {
                int sort = course.sort[seat];
                int power = course.power[seat];
                freshPull[seat] = sort == FIERY ? power + 2 : sort == LATE ? power - 1 : power;
                laterPull[seat] = sort == FIERY ? power - 1 : sort == LATE ? power + 1 : power;
                minutesOf[seat] = 0;
                pulledBy[seat] = 0;
            }
        }

        private void pullAll(Course course, int minute) {
            boolean rowing = home == NONE && course.rate[minute] > 0;
            int idleSeats = rowing ? crabs[minute] : EVERY_SEAT;
            int[] row = pull[minute];
            int leftNow = 0;
            int rightNow = 0;
            for (int seat = 0; seat < course.rowers; seat++) {
                int by = 0;
                if ((idleSeats >> seat & 1) == 0) {
                    by = minutesOf[seat] < FRESH_MINUTES ? freshPull[seat] : laterPull[seat];
                    minutesOf[seat]++;
                    pulledBy[seat] += by;
                }
                row[seat] = by;
                if (seat % 2 == 0) {
                    leftNow += by;
                } else {
                    rightNow += by;
                }
            }
            left[minute] = leftNow;
            right[minute] = rightNow;
        }

        private int placeBehind(Course course, int minute, int before) {
            // Java cuts towards 0, so one division serves for both sides.
            int drift = course.rate[minute] * (left[minute] - right[minute]) / 6;
            int rudder = course.rudder[minute];
            int turn = rudder == TO_RIGHT ? 1 : rudder == TO_LEFT ? -1 : 0;
            int behind = before + drift + turn + aside[minute];
            if (behind > 0 && behind < RIGHT_BANK) {
                return behind;
            }
            aground[minute] = 1;
            return behind <= 0 ? 0 : RIGHT_BANK;
        }

        private int metresIn(Course course, int minute) {
            int half = (left[minute] + right[minute]) / 2;
            int way = course.rate[minute] * half + course.stream + flood[minute];
            return aground[minute] == 1 ? way / 2 : way;
        }

        int minutesAground() {
            int many = 0;
            for (int minute = 0; minute < MINUTES; minute++) {
                many += aground[minute];
            }
            return many;
        }

        int firstAground() {
            for (int minute = 0; minute < MINUTES; minute++) {
                if (aground[minute] == 1) {
                    return minute;
                }
            }
            return NONE;
        }

        int lastStray() {
            return Math.abs(place[LAST] - MIDDLE);
        }

        int farthestStray() {
            int most = 0;
            for (int minute = 0; minute < MINUTES; minute++) {
                most = Math.max(most, Math.abs(place[minute] - MIDDLE));
            }
            return most;
        }
    }

    /** A row of one form, or none while it is lost. */
    private static final class Sheet {
        final int[] items = new int[MOST_ITEMS];
        boolean isLost = true;
        int form = BYTES;
        int size = 0;

        void begin(int itsForm, int itsSize) {
            Arrays.fill(items, 0);
            isLost = false;
            form = itsForm;
            size = itsSize;
        }

        /** The number of what is wrong with an item that is treated as of a form; 0: nothing. */
        int findingOf(int itsForm, int i) {
            if (isLost) {
                return NULL;
            }
            if (form != itsForm) {
                return CAST;
            }
            return isBelow(i, size) ? 0 : INDEX;
        }

        boolean hasRange(int from, int many) {
            return from >= 0 && many >= 0 && from <= size - many;
        }

        void keep(int i, int v) {
            items[i] = form == BYTES ? (byte) v : form == SHORTS ? (short) v : v;
        }
    }
}
