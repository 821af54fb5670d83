import java.util.ArrayList;
import java.util.List;

/**
 * "Refusals, the first that fits, in the order told at each act ... They change nothing (FINDINGS but
 * count() 8)": every refused call is made on one of two like objects, and both are compared behind it.
 * So is every call that only asks.
 */
public final class RefusalsTest {
    private static final int BAD = -2, NOT = -3, FULL = -4, LEAST = Integer.MIN_VALUE;
    private static final int NULL = -11, INDEX = -12, CAST = -13, STORE = -14, SIZE = -15;
    private static final long LONG_BAD = Long.MIN_VALUE + 2;
    private static final int[] FAR = {Integer.MIN_VALUE, -100, -2, 100, 1000, Integer.MAX_VALUE};
    private static final Check check = new Check("RefusalsTest");

    private interface Call {
        long on(RowingEight x);
    }

    private interface Maker {
        RowingEight make();
    }

    /** A call, what it is due to answer, and the number of the finding that it leaves (0: as it was). */
    private record Refused(String name, Call call, long due, int finding) {
    }

    public static void main(String[] args) {
        Maker[] states = {RowingEight::new, RefusalsTest::midway, RefusalsTest::full, RefusalsTest::faulty};
        String[] names = {"new", "midway", "full", "faulty"};
        for (int i = 0; i < states.length; i++) {
            for (Refused r : inAnyState()) leavesAll(names[i], states[i], r);
            for (Refused r : asking(states[i])) leavesAll(names[i], states[i], r);
        }
        for (Refused r : whenNew()) leavesAll("new", states[0], r);
        for (Refused r : whenMidway()) leavesAll("midway", states[1], r);
        for (Refused r : whenFull()) leavesAll("full", states[2], r);
        for (Refused r : whenFaulty()) leavesAll("faulty", states[3], r);
        check.end();
    }

    private static void leavesAll(String state, Maker maker, Refused r) {
        RowingEight touched = maker.make();
        RowingEight like = maker.make();
        check.due(state + ", " + r.name, r.call.on(touched), r.due);
        int before = like.count(8);
        check.due(state + ", finding behind " + r.name, touched.count(8), r.finding == 0 ? before : r.finding);
        // The finding alone may differ: one more of the same number on both makes it the same again.
        touched.sheet(0, 0, -1);
        like.sheet(0, 0, -1);
        check.holds(state + ": " + r.name + " changes nothing", Account.whole(touched).equals(Account.whole(like)));
    }

    // ---- the states; sheet 3 is lost in each

    private static RowingEight midway() {
        RowingEight x = Check.eight("f5;s4;l6", "3102", "lr");
        x.event(1, 2, 1);
        x.event(0, 4, 0);
        x.seen(1, x.at(1, 1));
        Check.items(x, 0, 0, 1, 2, 3);
        Check.items(x, 1, 1, 4, 5);
        Check.items(x, 2, 2, 6);
        x.put(2, 2, 7, 7);
        return x;
    }

    private static RowingEight full() {
        RowingEight x = Check.eight("s1;f2;l3;s4;f5;l6;s7;f8", "321032103210321032103210", "lr-lr-lr-lr-lr-lr-lr-lr-");
        for (int i = 0; i < 8; i++) {
            x.event(i % 3, 2 * i, i);
            x.seen(i, x.at(i, 1));
        }
        for (int s = 0; s < 3; s++) {
            x.sheet(s, s, 60);
            x.write(s % 2, s);
        }
        x.copy(0, 0, 1, 0, 1);
        return x;
    }

    private static RowingEight faulty() {
        RowingEight x = Check.eight("f5;s4;l6;", "3x", "lrx");
        x.event(1, 2, 1);
        x.seen(1, 10);
        x.sheet(0, 0, 0);
        x.sheet(1, 1, 0);
        x.sheet(2, 2, 0);
        return x;
    }

    // ---- what is refused

    private static List<Refused> inAnyState() {
        List<Refused> all = new ArrayList<>();
        for (int v : FAR) {
            badTelling(all, v);
            badAsking(all, v);
            badSheets(all, v);
        }
        bad(all, "type(-1, 0)", x -> x.type(-1, 0));
        bad(all, "type(3, 0)", x -> x.type(3, 0));
        bad(all, "type(0, -1)", x -> x.type(0, -1));
        bad(all, "type(1, 256)", x -> x.type(1, 256));
        bad(all, "wipe(3)", x -> x.wipe(3));
        bad(all, "undo(3)", x -> x.undo(3));
        bad(all, "river(0, 10)", x -> x.river(0, 10));
        bad(all, "river(0, -1)", x -> x.river(0, -1));
        bad(all, "river(1, 49)", x -> x.river(1, 49));
        bad(all, "river(1, 1000)", x -> x.river(1, 1000));
        bad(all, "river(2, 60)", x -> x.river(2, 60));
        bad(all, "event(3, 0, 0)", x -> x.event(3, 0, 0));
        bad(all, "event(1, 24, 0)", x -> x.event(1, 24, 0));
        bad(all, "event(1, 0, 8)", x -> x.event(1, 0, 8));
        bad(all, "seen(24, 0)", x -> x.seen(24, 0));
        bad(all, "seen(0, 21)", x -> x.seen(0, 21));
        bad(all, "sheet(0, 0, 61)", x -> x.sheet(0, 0, 61));
        bad(all, "sheet(4, 0, -1)", x -> x.sheet(4, 0, -1));
        bad(all, "sheet(0, 3, -1)", x -> x.sheet(0, 3, -1));
        found(all, "sheet(0, 2, -1)", x -> x.sheet(0, 2, -1), SIZE);
        found(all, "lose(3)", x -> x.lose(3), NULL);
        found(all, "read(3)", x -> x.read(3), NULL);
        found(all, "write(1, 3)", x -> x.write(1, 3), NULL);
        found(all, "put(3, 1, 0, 5)", x -> x.put(3, 1, 0, 5), NULL);
        found(all, "copy(3, 0, 3, 0, 0)", x -> x.copy(3, 0, 3, 0, 0), NULL);
        found(all, "copy(3, 0, 0, 0, 0)", x -> x.copy(3, 0, 0, 0, 0), NULL);
        found(all, "copy(0, 0, 3, 0, -1)", x -> x.copy(0, 0, 3, 0, -1), NULL);
        all.add(new Refused("get(3, 1, 0)", x -> x.get(3, 1, 0), LEAST, 1));
        return all;
    }

    private static void badTelling(List<Refused> all, int v) {
        bad(all, "type(" + v + ", 50)", x -> x.type(v, 50));
        bad(all, "wipe(" + v + ")", x -> x.wipe(v));
        bad(all, "undo(" + v + ")", x -> x.undo(v));
        bad(all, "fault(" + v + ")", x -> x.fault(v));
        bad(all, "rower(" + v + ", 0)", x -> x.rower(v, 0));
        bad(all, "rower(0, " + v + ")", x -> x.rower(0, v));
        bad(all, "call(" + v + ", 0)", x -> x.call(v, 0));
        bad(all, "call(0, " + v + ")", x -> x.call(0, v));
        bad(all, "river(" + v + ", 5)", x -> x.river(v, 5));
        bad(all, "river(0, " + v + ")", x -> x.river(0, v));
        bad(all, "event(" + v + ", 0, 0)", x -> x.event(v, 0, 0));
        bad(all, "event(0, " + v + ", 0)", x -> x.event(0, v, 0));
        bad(all, "event(2, 0, " + v + ")", x -> x.event(2, 0, v));
        bad(all, "read(" + v + ")", x -> x.read(v));
        bad(all, "seen(" + v + ", 0)", x -> x.seen(v, 0));
        bad(all, "seen(0, " + v + ")", x -> x.seen(0, v));
        bad(all, "count(" + v + ")", x -> x.count(v));
    }

    private static void badAsking(List<Refused> all, int v) {
        bad(all, "at(" + v + ", 0)", x -> x.at(v, 0));
        bad(all, "at(0, " + v + ")", x -> x.at(0, v));
        bad(all, "pulls(" + v + ", 0)", x -> x.pulls(v, 0));
        bad(all, "pulls(0, " + v + ")", x -> x.pulls(0, v));
        bad(all, "done(" + v + ", 0)", x -> x.done(v, 0));
        bad(all, "done(0, " + v + ")", x -> x.done(0, v));
        bad(all, "grounded(" + v + ")", x -> x.grounded(v));
        bad(all, "stray(" + v + ")", x -> x.stray(v));
        bad(all, "swap(" + v + ")", x -> x.swap(v));
        bad(all, "steer(" + v + ", 0)", x -> x.steer(v, 0));
        bad(all, "steer(0, " + v + ")", x -> x.steer(0, v));
        bad(all, "stroke(" + v + ", 0)", x -> x.stroke(v, 0));
        bad(all, "stroke(0, " + v + ")", x -> x.stroke(0, v));
        bad(all, "spare(" + v + ")", x -> x.spare(v));
        bad(all, "was(" + v + ", 0)", x -> x.was(v, 0));
        bad(all, "was(0, " + v + ")", x -> x.was(0, v));
        bad(all, "ask(" + v + ")", x -> x.ask(v));
        all.add(new Refused("chance(" + v + ", 0, 0)", x -> x.chance(v, 0, 0), LONG_BAD, 0));
        all.add(new Refused("chance(0, " + v + ", 0)", x -> x.chance(0, v, 0), LONG_BAD, 0));
        all.add(new Refused("chance(0, 0, " + v + ")", x -> x.chance(0, 0, v), LONG_BAD, 0));
        bad(all, "years(0, " + v + ", 0)", x -> x.years(0, v, 0));
        bad(all, "years(0, 0, " + v + ")", x -> x.years(0, 0, v));
    }

    private static void badSheets(List<Refused> all, int v) {
        bad(all, "sheet(" + v + ", 0, 0)", x -> x.sheet(v, 0, 0));
        bad(all, "sheet(0, " + v + ", 0)", x -> x.sheet(0, v, 0));
        if (v > 0) bad(all, "sheet(0, 0, " + v + ")", x -> x.sheet(0, 0, v));
        else found(all, "sheet(0, 0, " + v + ")", x -> x.sheet(0, 0, v), SIZE);
        bad(all, "lose(" + v + ")", x -> x.lose(v));
        bad(all, "put(" + v + ", 0, 0, 5)", x -> x.put(v, 0, 0, 5));
        bad(all, "put(0, " + v + ", 0, 5)", x -> x.put(0, v, 0, 5));
        bad(all, "put(3, " + v + ", 0, 5)", x -> x.put(3, v, 0, 5));
        all.add(new Refused("get(" + v + ", 0, 0)", x -> x.get(v, 0, 0), LEAST, 0));
        all.add(new Refused("get(0, " + v + ", 0)", x -> x.get(0, v, 0), LEAST, 0));
        all.add(new Refused("get(3, " + v + ", 0)", x -> x.get(3, v, 0), LEAST, 0));
        bad(all, "copy(" + v + ", 0, 0, 0, 0)", x -> x.copy(v, 0, 0, 0, 0));
        bad(all, "copy(0, 0, " + v + ", 0, 0)", x -> x.copy(0, 0, v, 0, 0));
        bad(all, "copy(3, 0, " + v + ", 0, 0)", x -> x.copy(3, 0, v, 0, 0));
        bad(all, "write(" + v + ", 0)", x -> x.write(v, 0));
        bad(all, "write(" + v + ", 3)", x -> x.write(v, 3));
        bad(all, "write(0, " + v + ")", x -> x.write(0, v));
    }

    private static List<Refused> whenNew() {
        List<Refused> all = new ArrayList<>();
        for (int text = 0; text < 3; text++) {
            int t = text;
            all.add(new Refused("undo(" + t + ")", x -> x.undo(t), NOT, 0));
        }
        all.add(new Refused("back()", RowingEight::back, NOT, 0));
        seatsAreBad(all, 0);
        return all;
    }

    private static List<Refused> whenFaulty() {
        List<Refused> all = new ArrayList<>();
        seatsAreBad(all, 0);
        for (int s = 0; s < 3; s++) {
            int t = s;
            found(all, "put(" + t + ", " + t + ", 0, 5)", x -> x.put(t, t, 0, 5), INDEX);
            found(all, "copy(" + t + ", 0, " + t + ", 0, 1)", x -> x.copy(t, 0, t, 0, 1), INDEX);
        }
        return all;
    }

    private static void seatsAreBad(List<Refused> all, int from) {
        for (int seat = from; seat <= 8; seat++) {
            int s = seat;
            bad(all, "rower(" + s + ", 0)", x -> x.rower(s, 0));
            bad(all, "pulls(0, " + s + ")", x -> x.pulls(0, s));
            bad(all, "done(" + s + ", 0)", x -> x.done(s, 0));
            bad(all, "was(" + s + ", 0)", x -> x.was(s, 0));
            bad(all, "ask(" + s + ")", x -> x.ask(s));
        }
    }

    private static List<Refused> whenMidway() {
        List<Refused> all = new ArrayList<>();
        seatsAreBad(all, 3);
        found(all, "put(0, 1, 0, 5)", x -> x.put(0, 1, 0, 5), CAST);
        found(all, "put(0, 2, -1, 5)", x -> x.put(0, 2, -1, 5), CAST);
        found(all, "put(0, 0, 3, 5)", x -> x.put(0, 0, 3, 5), INDEX);
        found(all, "put(1, 1, -1, 5)", x -> x.put(1, 1, -1, 5), INDEX);
        found(all, "put(2, 2, 1, 5)", x -> x.put(2, 2, 1, 5), INDEX);
        all.add(new Refused("get(0, 1, 0)", x -> x.get(0, 1, 0), LEAST, 3));
        all.add(new Refused("get(0, 1, 9)", x -> x.get(0, 1, 9), LEAST, 3));
        all.add(new Refused("get(0, 0, 3)", x -> x.get(0, 0, 3), LEAST, 2));
        all.add(new Refused("get(0, 0, -1)", x -> x.get(0, 0, -1), LEAST, 2));
        found(all, "copy(0, 0, 1, 0, 1)", x -> x.copy(0, 0, 1, 0, 1), STORE);
        found(all, "copy(0, -1, 2, 0, 99)", x -> x.copy(0, -1, 2, 0, 99), STORE);
        found(all, "copy(0, 1, 0, 0, 3)", x -> x.copy(0, 1, 0, 0, 3), INDEX);
        found(all, "copy(0, 0, 0, 1, 3)", x -> x.copy(0, 0, 0, 1, 3), INDEX);
        found(all, "copy(0, 0, 0, 0, -1)", x -> x.copy(0, 0, 0, 0, -1), INDEX);
        return all;
    }

    private static List<Refused> whenFull() {
        List<Refused> all = new ArrayList<>();
        for (int text = 0; text < 3; text++) {
            int t = text;
            all.add(new Refused("type(" + t + ", 50)", x -> x.type(t, 50), FULL, 0));
            bad(all, "type(" + t + ", 256)", x -> x.type(t, 256));
        }
        all.add(new Refused("event(1, 0, 1)", x -> x.event(1, 0, 1), FULL, 0));
        all.add(new Refused("seen(0, 0)", x -> x.seen(0, 0), FULL, 0));
        // No refusal, but nothing has room.
        all.add(new Refused("read(2)", x -> x.read(2), 0, 0));
        seatsAreBad(all, 8);
        found(all, "put(1, 1, 60, 5)", x -> x.put(1, 1, 60, 5), INDEX);
        found(all, "copy(0, 1, 0, 0, 60)", x -> x.copy(0, 1, 0, 0, 60), INDEX);
        return all;
    }

    private static void bad(List<Refused> all, String name, Call call) {
        all.add(new Refused(name, call, BAD, 0));
    }

    private static void found(List<Refused> all, String name, Call call, int due) {
        all.add(new Refused(name, call, due, -10 - due));
    }

    // ---- what only asks: the answer is due to be that of a like object, and nothing changes

    private static List<Refused> asking(Maker maker) {
        List<Refused> all = new ArrayList<>();
        asks(all, maker, "there()", RowingEight::there);
        asks(all, maker, "best()", RowingEight::best);
        asks(all, maker, "idle()", RowingEight::idle);
        asks(all, maker, "never()", RowingEight::never);
        asks(all, maker, "digest()", RowingEight::digest);
        for (int i = 0; i < 3; i++) {
            int v = i;
            asks(all, maker, "fault(" + v + ")", x -> x.fault(v));
            asks(all, maker, "rower(" + v + ", 1)", x -> x.rower(v, 1));
            asks(all, maker, "call(" + v + ", 1)", x -> x.call(v, 1));
            asks(all, maker, "at(" + v + ", 0)", x -> x.at(v, 0));
            asks(all, maker, "pulls(5, " + v + ")", x -> x.pulls(5, v));
            asks(all, maker, "done(" + v + ", 1)", x -> x.done(v, 1));
            asks(all, maker, "swap(" + v + ")", x -> x.swap(v));
            asks(all, maker, "steer(" + v + ", 0)", x -> x.steer(v, 0));
            asks(all, maker, "stroke(" + v + ", 1)", x -> x.stroke(v, 1));
            asks(all, maker, "spare(" + (v - 1) + ")", x -> x.spare(v - 1));
            asks(all, maker, "was(" + v + ", 0)", x -> x.was(v, 0));
            asks(all, maker, "was(" + v + ", 1)", x -> x.was(v, 1));
            asks(all, maker, "ask(" + v + ")", x -> x.ask(v));
            asks(all, maker, "chance(8, " + v + ", 0)", x -> x.chance(8, v, 0));
            asks(all, maker, "years(" + v + ", 24, 0)", x -> x.years(v, 24, 0));
        }
        for (int i = 0; i < 9; i++) {
            int v = i;
            asks(all, maker, "count(" + v + ")", x -> x.count(v));
        }
        return all;
    }

    private static void asks(List<Refused> all, Maker maker, String name, Call call) {
        all.add(new Refused(name, call, call.on(maker.make()), 0));
    }
}
