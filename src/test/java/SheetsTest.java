/** Promises 31 to 38: sheets, findings, counts, the digest. */
public final class SheetsTest {
    private static final int NONE = -1, BAD = -2, LEAST = Integer.MIN_VALUE;
    private static final int NULL = -11, INDEX = -12, CAST = -13, STORE = -14, SIZE = -15;
    private static final Check check = new Check("SheetsTest");

    public static void main(String[] args) {
        sheet();
        lose();
        put();
        get();
        copy();
        copyRefused();
        write();
        count();
        findings();
        digest();
        check.end();
    }

    private static void sheet() {
        RowingEight x = new RowingEight();
        check.due("sheet(0, 0, 0)", x.sheet(0, 0, 0), 0);
        check.due("sheet(3, 2, 60)", x.sheet(3, 2, 60), 60);
        check.due("items are 0 at first", x.get(3, 2, 59), 0);
        check.due("sheet(-1, 0, 1)", x.sheet(-1, 0, 1), BAD);
        check.due("sheet(4, 0, 1)", x.sheet(4, 0, 1), BAD);
        check.due("sheet(0, -1, 1)", x.sheet(0, -1, 1), BAD);
        check.due("sheet(0, 3, 1)", x.sheet(0, 3, 1), BAD);
        check.due("sheet(0, 0, 61)", x.sheet(0, 0, 61), BAD);
        check.due("sheet(4, 0, -1)", x.sheet(4, 0, -1), BAD);
        check.due("no finding yet", x.count(8), 0);
        check.due("sheet(3, 2, -1)", x.sheet(3, 2, -1), SIZE);
        check.due("the finding", x.count(8), 5);
        check.due("sheet 3 stays", x.get(3, 2, 59), 0);
        x.put(3, 2, 0, 7);
        check.due("sheet(3, 2, 1)", x.sheet(3, 2, 1), 1);
        check.due("a new row", x.get(3, 2, 0), 0);
    }

    private static void lose() {
        RowingEight x = new RowingEight();
        x.sheet(1, 1, 12);
        check.due("lose(1)", x.lose(1), 12);
        check.due("lose(1) again", x.lose(1), NULL);
        check.due("the finding", x.count(8), 1);
        check.due("lose(-1)", x.lose(-1), BAD);
        check.due("lose(4)", x.lose(4), BAD);
    }

    private static void kept(int form, int v, int due) {
        RowingEight x = new RowingEight();
        x.sheet(0, form, 2);
        check.due("put(0, " + form + ", 1, " + v + ")", x.put(0, form, 1, v), 1);
        check.due("get(0, " + form + ", 1)", x.get(0, form, 1), due);
        check.due("get(0, " + form + ", 0)", x.get(0, form, 0), 0);
    }

    private static void put() {
        kept(0, 127, 127);
        kept(0, 128, -128);
        kept(0, 256, 0);
        kept(0, -1, -1);
        kept(1, 32767, 32767);
        kept(1, 32768, -32768);
        kept(1, 65536 + 5, 5);
        kept(2, Integer.MAX_VALUE, Integer.MAX_VALUE);
        kept(2, -5, -5);
        RowingEight x = new RowingEight();
        check.due("put, lost", x.put(0, 0, 0, 1), NULL);
        x.sheet(0, 0, 2);
        check.due("put(-1, ..)", x.put(-1, 0, 0, 1), BAD);
        check.due("put(4, ..)", x.put(4, 0, 0, 1), BAD);
        check.due("put(0, -1, ..)", x.put(0, -1, 0, 1), BAD);
        check.due("put(0, 3, ..)", x.put(0, 3, 0, 1), BAD);
        check.due("put, another form and no such item", x.put(0, 1, 5, 1), CAST);
        check.due("put, item -1", x.put(0, 0, -1, 1), INDEX);
        check.due("put, item 2", x.put(0, 0, 2, 1), INDEX);
    }

    private static void get() {
        RowingEight x = new RowingEight();
        check.due("get(-1, 0, 0)", x.get(-1, 0, 0), LEAST);
        check.due("get(4, 0, 0)", x.get(4, 0, 0), LEAST);
        check.due("get(0, -1, 0)", x.get(0, -1, 0), LEAST);
        check.due("get(0, 3, 0)", x.get(0, 3, 0), LEAST);
        check.due("no finding by what is bad", x.count(8), 0);
        check.due("get, lost", x.get(0, 0, 0), LEAST);
        check.due("finding, lost", x.count(8), 1);
        x.sheet(0, 2, 1);
        check.due("get, another form", x.get(0, 0, 5), LEAST);
        check.due("finding, another form", x.count(8), 3);
        check.due("get, no such item", x.get(0, 2, 1), LEAST);
        check.due("finding, no such item", x.count(8), 2);
        check.due("get, item -1", x.get(0, 2, -1), LEAST);
        check.due("get, item 0", x.get(0, 2, 0), 0);
    }

    private static RowingEight counted(int n) {
        RowingEight x = new RowingEight();
        x.sheet(0, 1, n);
        for (int i = 0; i < n; i++) {
            x.put(0, 1, i, i + 1);
        }
        return x;
    }

    private static void itemsAre(RowingEight x, int s, int... due) {
        for (int i = 0; i < due.length; i++) {
            check.due("get(" + s + ", 1, " + i + ")", x.get(s, 1, i), due[i]);
        }
    }

    private static void copy() {
        RowingEight x = counted(5);
        x.sheet(1, 1, 3);
        check.due("copy(0, 2, 1, 0, 3)", x.copy(0, 2, 1, 0, 3), 1);
        itemsAre(x, 1, 3, 4, 5);
        check.due("copy onto itself, on", x.copy(0, 0, 0, 1, 4), 1);
        itemsAre(x, 0, 1, 1, 2, 3, 4);
        check.due("copy onto itself, back", x.copy(0, 1, 0, 0, 4), 1);
        itemsAre(x, 0, 1, 2, 3, 4, 4);
        check.due("copy of nothing, at the ends", x.copy(0, 5, 1, 3, 0), 1);
        itemsAre(x, 1, 3, 4, 5);
    }

    private static void copyRefused() {
        RowingEight x = counted(5);
        x.sheet(1, 1, 3);
        x.sheet(2, 2, 5);
        check.due("copy, no such sheet s", x.copy(-1, 0, 1, 0, 1), BAD);
        check.due("copy, no such sheet t", x.copy(0, 0, 4, 0, 1), BAD);
        check.due("copy, bad ahead of lost", x.copy(3, 0, 4, 0, 1), BAD);
        check.due("copy, s lost", x.copy(3, 0, 1, 0, 1), NULL);
        check.due("copy, t lost", x.copy(0, 0, 3, 0, 1), NULL);
        check.due("copy, unlike forms", x.copy(0, -1, 2, 0, 9), STORE);
        check.due("the finding", x.count(8), 4);
        check.due("copy from -1", x.copy(0, -1, 1, 0, 1), INDEX);
        check.due("copy to -1", x.copy(0, 0, 1, -1, 1), INDEX);
        check.due("copy of -1", x.copy(0, 0, 1, 0, -1), INDEX);
        check.due("copy, s too short", x.copy(0, 3, 1, 0, 3), INDEX);
        check.due("copy, t too short", x.copy(0, 0, 1, 1, 3), INDEX);
        check.due("copy, far too many", x.copy(0, 1, 1, 1, Integer.MAX_VALUE), INDEX);
        check.due("copy, far away", x.copy(0, Integer.MAX_VALUE, 1, 0, 1), INDEX);
        check.due("copy of nothing from behind the end", x.copy(0, 6, 1, 0, 0), INDEX);
        itemsAre(x, 1, 0, 0, 0);
    }

    private static void write() {
        RowingEight x = Check.eight("s5;s5", "", "rr");
        x.sheet(0, 0, 60);
        x.sheet(1, 1, 3);
        x.sheet(2, 2, 0);
        check.due("write(0, 0)", x.write(0, 0), 24);
        check.due("metres, the lowest bits", x.get(0, 0, 9), (byte) 130);
        check.due("nothing behind the minutes", x.get(0, 0, 24), 0);
        check.due("write(1, 1)", x.write(1, 1), 3);
        itemsAre(x, 1, 11, 12, 12);
        check.due("write(0, 1)", x.write(0, 1), 3);
        itemsAre(x, 1, 13, 26, 39);
        check.due("write(0, 2)", x.write(0, 2), 0);
        check.due("write(0, 3), lost", x.write(0, 3), NULL);
        check.due("write(-1, 0)", x.write(-1, 0), BAD);
        check.due("write(2, 0)", x.write(2, 0), BAD);
        check.due("write(0, -1)", x.write(0, -1), BAD);
        check.due("write(0, 4)", x.write(0, 4), BAD);
        check.due("write(2, 3), bad ahead of lost", x.write(2, 3), BAD);
    }

    private static void countsAre(RowingEight x, int... due) {
        for (int what = 0; what < due.length; what++) {
            check.due("count(" + what + ")", x.count(what), due[what]);
        }
    }

    private static void count() {
        RowingEight x = Check.eight("s5;s5", "012", "l-r-");
        x.river(0, 7);
        x.river(1, 321);
        x.event(0, 0, 0);
        x.seen(3, 3);
        x.seen(3, 4);
        x.lose(0);
        countsAre(x, 2, 3, 4, 12, 1, 7, 321, 2, 1);
        x.type(0, 'x');
        x.type(1, 'x');
        x.type(2, 'x');
        countsAre(x, 0, 0, 0, 15, 1, 7, 321, 2, 1);
        check.due("count(-1)", x.count(-1), BAD);
        check.due("count(9)", x.count(9), BAD);
    }

    private static void findings() {
        RowingEight x = new RowingEight();
        x.sheet(0, 0, 1);
        long before = x.digest();
        x.put(0, 0, 1, 1);
        check.due("latest finding, index", x.count(8), 2);
        x.put(0, 1, 0, 1);
        check.due("latest finding, cast", x.count(8), 3);
        x.sheet(5, 0, 0);
        x.put(0, 0, 0, 1);
        check.due("it stays when there is none", x.count(8), 3);
        check.due("findings change nothing else", x.digest(), before);
    }

    private static long digestBy(RowingEight x) {
        Mix h = new Mix();
        for (int what = 0; what < 8; what++) h.add(x.count(what));
        for (int text = 0; text < 3; text++) h.add(x.fault(text));
        for (int minute = 0; minute < 24; minute++) {
            h.add(x.call(minute, 0), x.call(minute, 1));
            for (int what = 0; what < 5; what++) h.add(x.at(minute, what));
        }
        for (int seat = 0; seat < x.count(0); seat++) {
            h.add(x.rower(seat, 0), x.rower(seat, 1));
            h.add(x.pulls(0, seat), x.pulls(7, seat), x.pulls(15, seat));
            h.add(x.done(seat, 0), x.done(seat, 1), x.was(seat, 0), x.was(seat, 1), x.ask(seat));
        }
        for (int minute = 2; minute <= 10; minute += 8) {
            h.add(x.steer(minute, 0), x.steer(minute, 1), x.stroke(minute, 0), x.stroke(minute, 1));
            h.add(x.chance(5, minute, 0), x.chance(5, minute, 1));
        }
        h.add(x.there(), x.grounded(0), x.grounded(1), x.stray(0), x.stray(1), x.best(), x.idle());
        h.add(x.swap(0), x.swap(1), x.swap(2), x.spare(NONE), x.spare(0), x.never());
        h.add(x.years(7, 18, 0), x.years(7, 18, 1));
        return h.value;
    }

    private static final class Mix {
        long value = 17;

        void add(long... items) {
            for (long item : items) value = 31 * value + item;
        }
    }

    private static void digest() {
        RowingEight x = new RowingEight();
        check.due("digest() of a new one", x.digest(), digestBy(x));
        x = Check.eight("s5;f4;l6;s5;f3;l5;s4;s6", "3120", "-lr-");
        check.due("digest() of eight", x.digest(), digestBy(x));
        Check.gusts(x, 6, 1, 1);
        x.event(0, 8, 7);
        x.event(2, 8, 7);
        x.seen(1, 10);
        check.due("digest() with events", x.digest(), digestBy(x));
        x = Check.eight("s5;f4;l6", "020", "");
        x.river(1, 999);
        x.event(0, 1, 0);
        x.event(0, 15, 1);
        x.event(0, 16, 2);
        check.due("digest() with crabs", x.digest(), digestBy(x));
        Check.tell(x, 1, "000000000000000000000000");
        check.due("digest() of idle ones", x.digest(), digestBy(x));
        x.type(0, 'x');
        check.due("digest() with a fault", x.digest(), digestBy(x));
    }
}
