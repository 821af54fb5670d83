import java.math.BigInteger;

/** Promises 1 to 38, one by one: the numbers at and beside each bound, the empty, the full, the wrap-around. */
public final class CallsEdgesTest {
    private static final int NONE = -1, BAD = -2, NOT = -3, FULL = -4, LEAST = Integer.MIN_VALUE;
    private static final int NULL = -11, INDEX = -12, CAST = -13, STORE = -14, SIZE = -15;
    private static final long LONG_BAD = Long.MIN_VALUE + 2;
    private static final Check check = new Check("CallsEdgesTest");

    /** A call with one of its numbers left open. */
    private interface Call {
        long on(RowingEight x, int v);
    }

    public static void main(String[] args) {
        newObject();
        texts();
        asTold();
        river();
        events();
        read();
        minutes();
        plans();
        seen();
        sheetAndLose();
        putAndGet();
        copy();
        write();
        count();
        digest();
        check.end();
    }

    /** Two rowers, one event, one thing seen, sheets 0 to 2 of two items of their form, sheet 3 lost. */
    private static RowingEight told() {
        RowingEight x = Check.eight("s5;f4", "31", "l");
        x.event(1, 3, 1);
        x.seen(0, 9);
        for (int s = 0; s < 3; s++) {
            x.sheet(s, s, 2);
        }
        return x;
    }

    /** The call is refused just beside the bounds and far away, and only there. */
    private static void range(String call, int least, int most, long refusal, Call asked) {
        for (int v = least; v <= most; v++) {
            long answer = asked.on(told(), v);
            check.holds(call + " is not refused at " + v, answer != refusal);
        }
        int[] beside = {least - 1, most + 1, least - 256, most + 256, Integer.MIN_VALUE, Integer.MAX_VALUE};
        for (int v : beside) {
            check.due(call + " at " + v, asked.on(told(), v), refusal);
        }
    }

    private static void range(String call, int least, int most, Call asked) {
        range(call, least, most, BAD, asked);
    }

    private static void newObject() {
        check.about("1: No ROWERS, no RATES, no RUDDER told, THE STREAM 3, HOME at 300 metres, no EVENTS; all SHEETS are LOST");
        RowingEight x = new RowingEight();
        for (int text = 0; text < 3; text++) {
            check.due("undo", x.undo(text), NOT);
            check.due("wipe", x.wipe(text), 0);
        }
        check.due("a rower", x.rower(0, 0), BAD);
        check.due("an event", x.back(), NOT);
        check.due("seen", x.forget(), 0);
        check.due("findings", x.count(8), 0);
        check.due("the stream", x.river(0, 3), 3);
        check.due("home", x.river(1, 300), 300);
        check.due("metres behind minute 23", x.at(23, 0), 72);
        for (int s = 0; s < 4; s++) {
            check.due("get", x.get(s, 0, 0), LEAST);
            check.due("its finding", x.count(8), 1);
            check.due("lose", x.lose(s), NULL);
        }
        RowingEight first = told();
        RowingEight second = new RowingEight();
        first.event(2, 0, 0);
        check.due("objects share nothing", second.count(3) + second.count(4) + second.count(7), 0);
    }

    private static void texts() {
        check.about("2: A byte (0 to 255) comes behind a text: how many. BAD; FULL");
        range("type(text, 50)", 0, 2, (x, v) -> x.type(v, 50));
        for (int text = 0; text < 3; text++) {
            int t = text;
            range("type(" + t + ", b)", 0, 255, (x, v) -> x.type(t, v));
        }
        check.due("how many", told().type(1, 0), 3);
        check.about("3: A text is empty: how many bytes it had. BAD");
        range("wipe(text)", 0, 2, (x, v) -> x.wipe(v));
        check.about("4: The last byte of a text is undone: how many are left. BAD; NOT: it is empty");
        range("undo(text)", 0, 2, (x, v) -> x.undo(v));
        check.about("5: The FAULT of a text; NONE. BAD");
        range("fault(text)", 0, 2, (x, v) -> x.fault(v));
        int[] rooms = {23, 24, 24};
        for (int text = 0; text < 3; text++) {
            fromFullToEmpty(text, rooms[text]);
        }
    }

    private static void fromFullToEmpty(int text, int room) {
        RowingEight x = new RowingEight();
        for (int i = 0; i < room; i++) {
            x.type(text, 'l');
        }
        check.about("2: FULL");
        check.due("type", x.type(text, 'l'), FULL);
        check.due("type, a byte that is none", x.type(text, 256), BAD);
        check.about("4: how many are left; NOT: it is empty");
        for (int left = room - 1; left >= 0; left--) {
            check.due("undo", x.undo(text), left);
        }
        check.due("undo of none", x.undo(text), NOT);
        check.due("undo of none again", x.undo(text), NOT);
        check.about("3: how many bytes it had");
        for (int i = 0; i < room; i++) {
            x.type(text, 'l');
        }
        check.due("wipe of a full one", x.wipe(text), room);
        check.due("wipe of an empty one", x.wipe(text), 0);
        check.due("it is empty", x.undo(text), NOT);
        check.due("so a byte is the first", x.type(text, 'l'), 1);
    }

    private static void asTold() {
        check.about("6: The sort (what = 0: 0 s, 1 f, 2 l), POWER (1) of a ROWER as told. BAD");
        range("rower(seat, 0)", 0, 1, (x, v) -> x.rower(v, 0));
        range("rower(seat, 1)", 0, 1, (x, v) -> x.rower(v, 1));
        range("rower(0, what)", 0, 1, (x, v) -> x.rower(0, v));
        range("rower(1, what)", 0, 1, (x, v) -> x.rower(1, v));
        check.due("none at all", new RowingEight().rower(0, 0), BAD);
        check.due("rower(7, 1) of eight", Check.eight("s1;s1;s1;s1;s1;s1;s1;l9", "", "").rower(7, 1), 9);
        check.due("rower(7, 1) of seven", Check.eight("s1;s1;s1;s1;s1;s1;s1", "", "").rower(7, 1), BAD);
        check.about("7: The RATE (what = 0), THE RUDDER (1: 0 -, 1 l, 2 r) as told. BAD");
        range("call(minute, 0)", 0, 23, (x, v) -> x.call(v, 0));
        range("call(minute, 1)", 0, 23, (x, v) -> x.call(v, 1));
        range("call(23, what)", 0, 1, (x, v) -> x.call(23, v));
    }

    private static void river() {
        check.about("8: THE STREAM (what = 0), how far HOME is (1): what it was. BAD");
        range("river(0, v)", 0, 9, (x, v) -> x.river(0, v));
        range("river(1, v)", 50, 999, (x, v) -> x.river(1, v));
        range("river(what, 5)", 0, 0, (x, v) -> x.river(v, 5));
        range("river(what, 500)", 1, 1, (x, v) -> x.river(v, 500));
        RowingEight x = new RowingEight();
        check.due("to 0", x.river(0, 0), 3);
        check.due("a refused one", x.river(0, 10), BAD);
        check.due("what it was", x.river(0, 9), 0);
        check.due("what it was, the same again", x.river(0, 9), 9);
        check.due("to 999", x.river(1, 999), 300);
        check.due("a refused one", x.river(1, 49), BAD);
        check.due("what it was", x.river(1, 50), 999);
        check.due("what it was, the same again", x.river(1, 50), 50);
    }

    private static void events() {
        check.about("9: An EVENT more: how many. BAD; FULL");
        range("event(kind, 0, 0)", 0, 2, (x, v) -> x.event(v, 0, 0));
        for (int kind = 0; kind < 3; kind++) {
            int k = kind;
            range("event(" + k + ", minute, 0)", 0, 23, (x, v) -> x.event(k, v, 0));
            range("event(" + k + ", 0, number)", 0, 7, (x, v) -> x.event(k, 0, v));
        }
        RowingEight x = new RowingEight();
        for (int i = 1; i <= 8; i++) {
            check.due("how many", x.event(1, 5, 1), i);
        }
        check.due("a ninth", x.event(1, 5, 1), FULL);
        check.due("a ninth, kind 3", x.event(3, 5, 1), BAD);
        check.due("a ninth, minute 24", x.event(1, 24, 1), BAD);
        check.due("a ninth, number 8", x.event(1, 5, 8), BAD);
        check.about("10: The last EVENT is undone: how many are left. NOT: there is none");
        for (int left = 7; left >= 0; left--) {
            check.due("how many are left", x.back(), left);
            check.due("the place without it", x.at(5, 1), Math.min(20, 10 + 2 * left));
        }
        check.due("there is none", x.back(), NOT);
        check.due("there is none still", x.back(), NOT);
        check.due("and one more is the first", x.event(0, 0, 0), 1);
        lastIsUndone();
    }

    private static void lastIsUndone() {
        RowingEight x = new RowingEight();
        x.event(1, 0, 1);
        x.event(1, 1, 0);
        x.back();
        check.due("the first one stays", x.at(0, 1), 12);
        check.due("the last one is undone", x.at(1, 1), 12);
    }

    private static void readIs(String what, int form, int due, int... items) {
        RowingEight x = new RowingEight();
        Check.items(x, 0, form, items);
        check.due(what, x.read(0), due);
        check.due(what + ", events", x.count(4), due);
    }

    private static void read() {
        check.about("11: EVENTS from a SHEET: its items, three for each, as many as are whole");
        range("read(s)", 0, 3, (x, v) -> x.read(v));
        check.due("read(3), lost", told().read(3), NULL);
        for (int size = 0; size <= 60; size++) {
            readIs(size + " items", size % 3, Math.min(8, size / 3), new int[size]);
        }
        check.about("11: as long as each may be");
        int[][] wrong = {{3, 0, 0}, {-1, 0, 0}, {0, 24, 0}, {0, -1, 0}, {0, 0, 8}, {0, 0, -1}};
        for (int[] w : wrong) {
            for (int form = 0; form < 3; form++) {
                readIs("a wrong one first", form, 0, w[0], w[1], w[2], 0, 0, 0);
                readIs("a wrong one behind two", form, 2, 2, 23, 7, 0, 0, 0, w[0], w[1], w[2], 0, 0, 0);
            }
        }
        readIs("as an int it is none", 2, 0, 256, 0, 0);
        readIs("as a byte it is 0", 0, 1, 256, 0, 0);
        readIs("as a byte it is below 0", 0, 0, 0, 0, 255);
        check.about("11: how many");
        RowingEight x = new RowingEight();
        Check.items(x, 0, 0, 1, 0, 1, 1, 1, 1);
        check.due("two", x.read(0), 2);
        check.due("two more", x.read(0), 2);
        check.due("events", x.count(4), 4);
        check.due("all four are", x.at(1, 1), 18);
        x.event(2, 0, 0);
        x.event(2, 0, 0);
        x.event(2, 0, 0);
        check.due("one has room", x.read(0), 1);
        check.due("none has room", x.read(0), 0);
        check.due("events", x.count(4), 8);
    }

    private static void minutes() {
        check.about("12: Metres (what = 0), the PLACE (1), what the LEFT pulls (2), the RIGHT (3), whether it is AGROUND (4: 1, 0). BAD");
        for (int what = 0; what < 5; what++) {
            int w = what;
            range("at(minute, " + w + ")", 0, 23, (x, v) -> x.at(v, w));
        }
        range("at(0, what)", 0, 4, (x, v) -> x.at(0, v));
        range("at(23, what)", 0, 4, (x, v) -> x.at(23, v));
        check.about("13: By how much one pulls. BAD");
        range("pulls(minute, 0)", 0, 23, (x, v) -> x.pulls(v, 0));
        range("pulls(0, seat)", 0, 1, (x, v) -> x.pulls(0, v));
        check.due("no rowers", new RowingEight().pulls(0, 0), BAD);
        check.about("14: In how many MINUTES one pulls (what = 0), all of that together (1). BAD");
        range("done(seat, 0)", 0, 1, (x, v) -> x.done(v, 0));
        range("done(seat, 1)", 0, 1, (x, v) -> x.done(v, 1));
        range("done(0, what)", 0, 1, (x, v) -> x.done(0, v));
        check.due("no rowers", new RowingEight().done(0, 0), BAD);
        check.about("16: GROUNDED: in how many MINUTES (what = 0), the first one (1; NONE). BAD");
        range("grounded(what)", 0, 1, (x, v) -> x.grounded(v));
        check.about("17: STRAY: behind MINUTE 23 (what = 0), the farthest (1). BAD");
        range("stray(what)", 0, 1, (x, v) -> x.stray(v));
    }

    private static void plans() {
        check.about("20: SWAP: the first (what = 0), the other one (1), how far (2); NONE. BAD");
        range("swap(what)", 0, 2, (x, v) -> x.swap(v));
        check.due("bad ahead of none", new RowingEight().swap(3), BAD);
        check.due("bad ahead of none", new RowingEight().swap(-1), BAD);
        check.about("21: STEER: which (what = 0), how far (1). BAD");
        range("steer(minute, 0)", 0, 23, (x, v) -> x.steer(v, 0));
        range("steer(minute, 1)", 0, 23, (x, v) -> x.steer(v, 1));
        range("steer(0, what)", 0, 1, (x, v) -> x.steer(0, v));
        check.about("22: STROKE: which (what = 0), how far (1). BAD");
        range("stroke(minute, 0)", 0, 23, (x, v) -> x.stroke(v, 0));
        range("stroke(minute, 1)", 0, 23, (x, v) -> x.stroke(v, 1));
        range("stroke(0, what)", 0, 1, (x, v) -> x.stroke(0, v));
        check.about("23: SPARE: how many (i = NONE), the i-th (0, 1; NONE); NONE. BAD");
        range("spare(i)", -1, 1, (x, v) -> x.spare(v));
        RowingEight aground = Check.still("llllllllll");
        check.due("NONE, of how many", aground.spare(NONE), NONE);
        check.due("bad ahead of none", aground.spare(2), BAD);
        check.due("bad ahead of none", aground.spare(-2), BAD);
    }

    private static void seen() {
        check.about("24: SEEN more: how many. BAD; FULL");
        range("seen(minute, 0)", 0, 23, (x, v) -> x.seen(v, 0));
        range("seen(0, place)", 0, 20, (x, v) -> x.seen(0, v));
        RowingEight x = new RowingEight();
        for (int i = 1; i <= 8; i++) {
            check.due("how many", x.seen(0, 10), i);
        }
        check.due("a ninth", x.seen(0, 10), FULL);
        check.due("a ninth, minute 24", x.seen(24, 10), BAD);
        check.due("a ninth, place 21", x.seen(0, 21), BAD);
        check.about("25: All SEEN are forgotten: how many");
        check.due("eight", x.forget(), 8);
        check.due("none", x.forget(), 0);
        check.due("and one more is the first", x.seen(0, 10), 1);
        check.due("one", x.forget(), 1);
        check.about("27: POWERS (what = 0), SORT (1), as bits. BAD");
        range("was(seat, 0)", 0, 1, (o, v) -> o.was(v, 0));
        range("was(seat, 1)", 0, 1, (o, v) -> o.was(v, 1));
        range("was(0, what)", 0, 1, (o, v) -> o.was(0, v));
        check.due("no rowers", new RowingEight().was(0, 0), BAD);
        check.about("28: ASK. BAD");
        range("ask(seat)", 0, 1, (o, v) -> o.ask(v));
        check.due("no rowers", new RowingEight().ask(0), BAD);
        check.about("29: CHANCE: above, below. BAD. (As the least long.)");
        range("chance(c, 0, 0)", 0, 16, LONG_BAD, (o, v) -> o.chance(v, 0, 0));
        range("chance(0, minute, 1)", 0, 23, LONG_BAD, (o, v) -> o.chance(0, v, 1));
        range("chance(0, 0, what)", 0, 1, LONG_BAD, (o, v) -> o.chance(0, 0, v));
        check.about("30: YEARS: how many metres (what = 0), the PLACE (1). BAD");
        range("years(1, n, 0)", 0, 24, (o, v) -> o.years(1, v, 0));
        range("years(1, n, 1)", 0, 24, (o, v) -> o.years(1, v, 1));
        range("years(1, 5, what)", 0, 1, (o, v) -> o.years(1, 5, v));
    }

    private static void sheetAndLose() {
        check.about("31: A SHEET is a new row of a FORM with n items: n. BAD: SHEET, FORM, above 60; SIZE");
        range("sheet(s, 0, 1)", 0, 3, (x, v) -> x.sheet(v, 0, 1));
        range("sheet(0, form, 1)", 0, 2, (x, v) -> x.sheet(0, v, 1));
        for (int n = 0; n <= 60; n++) {
            check.due("n items", told().sheet(3, n % 3, n), n);
        }
        int[] above = {61, 256, Integer.MAX_VALUE};
        for (int n : above) {
            check.due("above 60", told().sheet(0, 0, n), BAD);
        }
        int[] below = {-1, -60, Integer.MIN_VALUE};
        for (int n : below) {
            check.due("below 0", told().sheet(0, 0, n), SIZE);
            check.due("no such sheet, below 0", told().sheet(4, 0, n), BAD);
            check.due("no such form, below 0", told().sheet(0, 3, n), BAD);
        }
        newRow();
        check.about("32: It is LOST: how many items it had. BAD; NULL");
        range("lose(s)", 0, 3, (x, v) -> x.lose(v));
        for (int n = 0; n <= 60; n += 20) {
            RowingEight x = new RowingEight();
            x.sheet(3, 1, n);
            check.due("how many it had", x.lose(3), n);
            check.due("it is lost", x.lose(3), NULL);
            check.due("so no item is put", x.put(3, 1, 0, 1), NULL);
        }
    }

    private static void newRow() {
        RowingEight x = new RowingEight();
        Check.items(x, 0, 2, 5, 6, 7);
        x.sheet(0, 2, 4);
        for (int i = 0; i < 4; i++) {
            check.due("a new row is 0", x.get(0, 2, i), 0);
        }
        Check.items(x, 0, 2, 5, 6, 7);
        x.lose(0);
        x.sheet(0, 1, 3);
        check.due("a new row is 0, of another form", x.get(0, 1, 2), 0);
        check.due("and no more of the old one", x.get(0, 2, 2), LEAST);
        check.due("by its form", x.count(8), 3);
    }

    private static void kept(int form, int v, int due) {
        RowingEight x = told();
        check.due("put of " + v, x.put(form, form, 1, v), 1);
        check.due("get of " + v + " in form " + form, x.get(form, form, 1), due);
        check.due("the item beside it", x.get(form, form, 0), 0);
    }

    private static void putAndGet() {
        check.about("33: Item i, treated as of a FORM, becomes v (the lowest bits that it has): 1. BAD; NULL; CAST; INDEX");
        int[] values = {0, 1, -1, 127, 128, 129, 255, 256, 257, -128, -129, -256, 32767, 32768, 65535, 65536, 65537,
            -32768, -32769, Integer.MAX_VALUE, Integer.MIN_VALUE, Integer.MAX_VALUE - 128, 0x12345678};
        for (int v : values) {
            kept(0, v, (byte) v);
            kept(1, v, (short) v);
            kept(2, v, v);
        }
        range("put(s, 0, 0, 1)", 0, 3, (x, v) -> x.put(v, 0, 0, 1));
        range("put(0, form, 0, 1)", 0, 2, (x, v) -> x.put(0, v, 0, 1));
        range("put(2, 2, i, 1)", 0, 1, INDEX, (x, v) -> x.put(2, 2, v, 1));
        check.due("no such form, lost", told().put(3, 3, 0, 1), BAD);
        check.due("lost, no such item", told().put(3, 0, -1, 1), NULL);
        check.due("another form, no such item", told().put(0, 1, 2, 1), CAST);
        check.about("34: Item i of it. BAD: the least int; so are NULL, CAST, INDEX (count() 8 tells)");
        getIs("no such sheet", -1, 0, 0, 0);
        getIs("no such sheet", 4, 0, 0, 0);
        getIs("no such form", 0, -1, 0, 0);
        getIs("no such form", 0, 3, 0, 0);
        getIs("no such form, lost", 3, 3, 0, 0);
        getIs("lost", 3, 0, 0, 1);
        getIs("lost, no such item", 3, 0, 9, 1);
        getIs("another form", 0, 1, 0, 3);
        getIs("another form, no such item", 0, 1, 9, 3);
        getIs("item -1", 1, 1, -1, 2);
        getIs("item 2", 1, 1, 2, 2);
        getIs("the least item", 1, 1, Integer.MIN_VALUE, 2);
        getIs("the greatest item", 1, 1, Integer.MAX_VALUE, 2);
        RowingEight x = told();
        x.put(2, 2, 0, Integer.MIN_VALUE);
        check.due("an item that is the least int", x.get(2, 2, 0), LEAST);
        check.due("is no finding", x.count(8), 0);
    }

    private static void getIs(String what, int s, int form, int i, int finding) {
        RowingEight x = told();
        check.due("get, " + what, x.get(s, form, i), LEAST);
        check.due("its number, " + what, x.count(8), finding);
    }

    private static void copyIs(String what, int s, int i, int t, int j, int n, int due) {
        RowingEight x = told();
        Check.items(x, 0, 1, 1, 2, 3, 4, 5);
        Check.items(x, 1, 1, 6, 7, 8);
        check.due("copy, " + what, x.copy(s, i, t, j, n), due);
        int[] items = {6, 7, 8};
        for (int k = 0; k < n && due == 1; k++) {
            items[j + k] = i + k + 1;
        }
        for (int k = 0; k < 3; k++) {
            check.due("item " + k + " behind copy, " + what, x.get(1, 1, k), items[k]);
        }
        for (int k = 0; k < 5; k++) {
            check.due("where it came from, item " + k + ", " + what, x.get(0, 1, k), k + 1);
        }
    }

    private static void copy() {
        check.about("35: n items of SHEET s, from i on, come to SHEET t (perhaps s, as they were), from j on: 1");
        copyIs("all that has room", 0, 0, 1, 0, 3, 1);
        copyIs("the last ones", 0, 2, 1, 0, 3, 1);
        copyIs("to the end", 0, 4, 1, 2, 1, 1);
        copyIs("nothing", 0, 0, 1, 0, 0, 1);
        copyIs("nothing, behind the ends", 0, 5, 1, 3, 0, 1);
        onItself();
        check.about("35: BAD: the SHEETS; NULL: s, t; STORE; INDEX: below 0, not so many");
        copyIs("s -1", -1, 0, 1, 0, 1, BAD);
        copyIs("s 4", 4, 0, 1, 0, 1, BAD);
        copyIs("t -1", 0, 0, -1, 0, 1, BAD);
        copyIs("t 4", 0, 0, 4, 0, 1, BAD);
        copyIs("s lost, t 4", 3, 0, 4, 0, 1, BAD);
        copyIs("s lost", 3, 0, 1, 0, 1, NULL);
        copyIs("t lost", 0, 0, 3, 0, 1, NULL);
        copyIs("lost, below 0", 0, -1, 3, 0, -1, NULL);
        copyIs("both lost", 3, 0, 3, 0, 0, NULL);
        copyIs("unlike forms", 0, 0, 2, 0, 1, STORE);
        copyIs("unlike forms, of nothing", 0, 0, 2, 0, 0, STORE);
        copyIs("unlike forms, below 0", 2, -1, 1, 0, 1, STORE);
        copyIs("from -1", 0, -1, 1, 0, 1, INDEX);
        copyIs("to -1", 0, 0, 1, -1, 1, INDEX);
        copyIs("-1 of them", 0, 0, 1, 0, -1, INDEX);
        copyIs("from -1, of nothing", 0, -1, 1, 0, 0, INDEX);
        copyIs("to -1, of nothing", 0, 0, 1, -1, 0, INDEX);
        copyIs("one too many there", 0, 0, 1, 0, 4, INDEX);
        copyIs("one too many from there", 0, 3, 1, 0, 3, INDEX);
        copyIs("one too far", 0, 0, 1, 3, 1, INDEX);
        copyIs("of nothing, one too far", 0, 6, 1, 0, 0, INDEX);
        copyIs("of nothing, one too far there", 0, 0, 1, 4, 0, INDEX);
        int big = Integer.MAX_VALUE;
        copyIs("a sum that wraps", 0, 1, 1, 0, big, INDEX);
        copyIs("a sum that wraps, from", 0, big, 1, 0, 1, INDEX);
        copyIs("a sum that wraps, to", 0, 0, 1, big, 1, INDEX);
        copyIs("all the greatest", 0, big, 1, big, big, INDEX);
        copyIs("all the least", 0, LEAST, 1, LEAST, LEAST, INDEX);
        copyIs("a difference that wraps", 0, 0, 1, 0, LEAST, INDEX);
    }

    private static void onItself() {
        int[][] due = {{1, 1, 2, 3, 4}, {2, 3, 4, 5, 5}, {1, 2, 3, 4, 5}};
        int[][] from = {{0, 1, 4}, {1, 0, 4}, {0, 0, 5}};
        for (int k = 0; k < 3; k++) {
            for (int form = 0; form < 3; form++) {
                RowingEight x = new RowingEight();
                Check.items(x, 2, form, 1, 2, 3, 4, 5);
                check.due("copy onto itself", x.copy(2, from[k][0], 2, from[k][1], from[k][2]), 1);
                for (int i = 0; i < 5; i++) {
                    check.due("item " + i + " as it was", x.get(2, form, i), due[k][i]);
                }
            }
        }
    }

    private static void write() {
        check.about("36: Metres (what = 0), PLACES (1) behind MINUTES 0 on come to a SHEET from item 0 on, as many as there are items, 24 at most: how many");
        for (int form = 0; form < 3; form++) {
            int[] sizes = {0, 1, 2, 23, 24, 25, 60};
            for (int size : sizes) {
                written(form, size, 0);
                written(form, size, 1);
            }
        }
        check.about("36: BAD; NULL");
        range("write(what, 0)", 0, 1, (x, v) -> x.write(v, 0));
        range("write(0, s)", 0, 3, (x, v) -> x.write(0, v));
        check.due("lost", told().write(0, 3), NULL);
        check.due("lost, what 2", told().write(2, 3), BAD);
    }

    private static void written(int form, int size, int what) {
        RowingEight x = Check.eight("s9;s9;s8;s8", "", "lrrrl");
        x.river(1, 999);
        x.sheet(1, form, size);
        for (int i = 0; i < size; i++) {
            x.put(1, form, i, 99);
        }
        check.due("how many", x.write(what, 1), Math.min(size, 24));
        for (int i = 0; i < size; i++) {
            int v = i < 24 ? x.at(i, what) : 99;
            int due = form == 0 ? (byte) v : v;
            check.due("item " + i + " of form " + form, x.get(1, form, i), due);
        }
    }

    private static void count() {
        check.about("37: 0 ROWERS .. 8 the number of the latest FINDING (0 before any). BAD");
        range("count(what)", 0, 8, (x, v) -> x.count(v));
        check.about("37: 1 RATES told, 2 bytes of THE RUDDER (both without a FAULT), 3 bytes of all texts");
        RowingEight x = Check.eight("s1;s2;s3;s4;s5;s6;s7;s8", "012301230123012301230123", "lr-lr-lr-lr-lr-lr-lr-lr-");
        int[] full = {8, 24, 24, 71};
        int[] faulty = {0, 0, 0, 71};
        for (int what = 0; what < 4; what++) {
            check.due("full, count(" + what + ")", x.count(what), full[what]);
        }
        for (int text = 0; text < 3; text++) {
            x.undo(text);
            x.type(text, 255);
        }
        for (int what = 0; what < 4; what++) {
            check.due("with faults, count(" + what + ")", x.count(what), faulty[what]);
        }
        check.due("8 stays 0 by what is bad", x.type(3, 0) + x.count(9) + x.count(8), 2 * BAD);
    }

    private static void digest() {
        check.about("38: as longs that wrap");
        RowingEight x = new RowingEight();
        BigInteger h = BigInteger.valueOf(17);
        long[] counts = {0, 0, 0, 0, 0, 3, 300, 0, -1, -1, -1};
        for (long v : counts) {
            h = mixed(h, v);
        }
        for (int minute = 0; minute < 24; minute++) {
            long[] items = {2, 0, 3L * (minute + 1), 10, 0, 0, 0};
            for (long v : items) {
                h = mixed(h, v);
            }
        }
        // Two times steer, stroke and chance; then there on: nobody rows, the stream alone goes on.
        long[] rest = {0, 0, 0, 72, 0, 1, 0, 0, 0, 72, 0, 1,
            -1, 0, -1, 0, 0, -1, 0, -1, -1, -1, 0, -1, 0, 72, 10};
        for (long v : rest) {
            h = mixed(h, v);
        }
        check.holds("it does wrap", h.bitLength() > 64);
        check.due("a new one", x.digest(), h.longValue());
        check.due("asked again", x.digest(), h.longValue());
    }

    private static BigInteger mixed(BigInteger h, long v) {
        return h.multiply(BigInteger.valueOf(31)).add(BigInteger.valueOf(v));
    }
}
