/** Promises 1 to 11: what is told, and undone. */
public final class TellingTest {
    private static final int NONE = -1, BAD = -2, NOT = -3, FULL = -4, NULL = -11;
    private static final Check check = new Check("TellingTest");

    public static void main(String[] args) {
        newObject();
        type();
        wipe();
        undo();
        fault();
        rower();
        call();
        river();
        event();
        back();
        read();
        check.end();
    }

    private static void newObject() {
        RowingEight x = new RowingEight();
        int[] due = {0, 0, 0, 0, 0, 3, 300, 0, 0};
        for (int what = 0; what < due.length; what++) {
            check.due("new, count(" + what + ")", x.count(what), due[what]);
        }
        for (int minute = 0; minute < 24; minute++) {
            check.due("new, call(" + minute + ", 0)", x.call(minute, 0), 2);
            check.due("new, call(" + minute + ", 1)", x.call(minute, 1), 0);
        }
        for (int s = 0; s < 4; s++) {
            check.due("new, lose(" + s + ")", x.lose(s), NULL);
        }
    }

    private static void type() {
        RowingEight x = new RowingEight();
        int[] rooms = {23, 24, 24};
        for (int text = 0; text < 3; text++) {
            check.due("type(" + text + ", -1)", x.type(text, -1), BAD);
            check.due("type(" + text + ", 256)", x.type(text, 256), BAD);
            for (int i = 1; i <= rooms[text]; i++) {
                check.due("type, byte " + i, x.type(text, i % 2 == 0 ? 0 : 255), i);
            }
            check.due("type, one too many", x.type(text, 50), FULL);
            check.due("type, bad and too many", x.type(text, 256), BAD);
        }
        check.due("type(-1, 50)", x.type(-1, 50), BAD);
        check.due("type(3, 50)", x.type(3, 50), BAD);
        check.due("bytes of all texts", x.count(3), 71);
    }

    private static void wipe() {
        RowingEight x = Check.eight("s1;f2", "0123", "lr");
        check.due("wipe(0)", x.wipe(0), 5);
        check.due("wipe(0) again", x.wipe(0), 0);
        check.due("rowers wiped", x.count(0), 0);
        check.due("rates left", x.count(1), 4);
        check.due("wipe(1)", x.wipe(1), 4);
        check.due("rate wiped", x.call(0, 0), 2);
        check.due("rudder left", x.call(0, 1), 1);
        check.due("wipe(2)", x.wipe(2), 2);
        check.due("rudder wiped", x.call(0, 1), 0);
        check.due("wipe(-1)", x.wipe(-1), BAD);
        check.due("wipe(3)", x.wipe(3), BAD);
    }

    private static void undo() {
        RowingEight x = Check.eight("s1;f2x", "0", "lr");
        check.due("undo(0)", x.undo(0), 5);
        check.due("rowers as before the byte", x.count(0), 2);
        check.due("undo(1)", x.undo(1), 0);
        check.due("undo(1), empty", x.undo(1), NOT);
        check.due("rate undone", x.call(0, 0), 2);
        check.due("undo(2)", x.undo(2), 1);
        check.due("rudder undone", x.call(1, 1), 0);
        check.due("undo(-1)", x.undo(-1), BAD);
        check.due("undo(3)", x.undo(3), BAD);
    }

    private static void faultIs(int text, String bytes, int due) {
        RowingEight x = new RowingEight();
        Check.tell(x, text, bytes);
        check.due("fault(" + text + ") of '" + bytes + "'", x.fault(text), due);
    }

    private static void fault() {
        String[] crews = {"", "s1", "f9", "l5;s1", "s1;f2;l3;s4;f5;l6;s7;f8"};
        for (String crew : crews) {
            faultIs(0, crew, NONE);
        }
        faultIs(0, "s", 1);
        faultIs(0, "s0", 1);
        faultIs(0, "s:", 1);
        faultIs(0, "s1;", 3);
        faultIs(0, "s1;f", 4);
        faultIs(0, "s1f2", 2);
        faultIs(0, "s12", 2);
        faultIs(0, "S1", 0);
        faultIs(0, ";", 0);
        faultIs(0, "s1;;", 3);
        faultIs(0, "s1;x", 3);
        faultIs(0, "s1;s1;s1;s1;s1;s1;s1;s", 22);
        faultIs(1, "", NONE);
        faultIs(1, "012301230123012301230123", NONE);
        faultIs(1, "4", 0);
        faultIs(1, "0/", 1);
        faultIs(1, "0123 ", 4);
        faultIs(2, "", NONE);
        faultIs(2, "lr-lr-lr-lr-lr-lr-lr-lr-", NONE);
        faultIs(2, "s", 0);
        faultIs(2, "lrR", 2);
        RowingEight x = new RowingEight();
        check.due("fault(-1)", x.fault(-1), BAD);
        check.due("fault(3)", x.fault(3), BAD);
    }

    private static void rower() {
        RowingEight x = Check.eight("s1;f5;l9", "", "");
        int[] sorts = {0, 1, 2};
        int[] powers = {1, 5, 9};
        for (int seat = 0; seat < 3; seat++) {
            check.due("rower(" + seat + ", 0)", x.rower(seat, 0), sorts[seat]);
            check.due("rower(" + seat + ", 1)", x.rower(seat, 1), powers[seat]);
        }
        check.due("rower(3, 0)", x.rower(3, 0), BAD);
        check.due("rower(-1, 0)", x.rower(-1, 0), BAD);
        check.due("rower(0, -1)", x.rower(0, -1), BAD);
        check.due("rower(0, 2)", x.rower(0, 2), BAD);
        x.type(0, ';');
        check.due("rower(0, 0) with a fault", x.rower(0, 0), BAD);
    }

    private static void call() {
        RowingEight x = Check.eight("", "0123", "-lr");
        int[] rates = {0, 1, 2, 3, 2};
        int[] ways = {0, 1, 2, 0, 0};
        for (int minute = 0; minute < 5; minute++) {
            check.due("call(" + minute + ", 0)", x.call(minute, 0), rates[minute]);
            check.due("call(" + minute + ", 1)", x.call(minute, 1), ways[minute]);
        }
        check.due("call(23, 0)", x.call(23, 0), 2);
        check.due("call(24, 0)", x.call(24, 0), BAD);
        check.due("call(-1, 0)", x.call(-1, 0), BAD);
        check.due("call(0, -1)", x.call(0, -1), BAD);
        check.due("call(0, 2)", x.call(0, 2), BAD);
        x.type(1, '4');
        x.type(2, 'x');
        check.due("call(0, 0) with a fault", x.call(0, 0), 2);
        check.due("call(1, 1) with a fault", x.call(1, 1), 0);
        Check.tell(x, 2, "lx");
        check.due("call(0, 1) with a fault", x.call(0, 1), 0);
        Check.tell(x, 1, "333333333333333333333331");
        check.due("call(23, 0), told", x.call(23, 0), 1);
    }

    private static void river() {
        RowingEight x = new RowingEight();
        check.due("river(0, 0)", x.river(0, 0), 3);
        check.due("river(0, 9)", x.river(0, 9), 0);
        check.due("river(0, -1)", x.river(0, -1), BAD);
        check.due("river(0, 10)", x.river(0, 10), BAD);
        check.due("river(0, 4)", x.river(0, 4), 9);
        check.due("river(1, 50)", x.river(1, 50), 300);
        check.due("river(1, 999)", x.river(1, 999), 50);
        check.due("river(1, 49)", x.river(1, 49), BAD);
        check.due("river(1, 1000)", x.river(1, 1000), BAD);
        check.due("river(1, 100)", x.river(1, 100), 999);
        check.due("river(2, 5)", x.river(2, 5), BAD);
        check.due("river(-1, 5)", x.river(-1, 5), BAD);
        check.due("the stream", x.count(5), 4);
        check.due("home", x.count(6), 100);
    }

    private static void event() {
        RowingEight x = new RowingEight();
        check.due("event(-1, 0, 0)", x.event(-1, 0, 0), BAD);
        check.due("event(3, 0, 0)", x.event(3, 0, 0), BAD);
        check.due("event(0, -1, 0)", x.event(0, -1, 0), BAD);
        check.due("event(0, 24, 0)", x.event(0, 24, 0), BAD);
        check.due("event(0, 0, -1)", x.event(0, 0, -1), BAD);
        check.due("event(2, 0, 8)", x.event(2, 0, 8), BAD);
        for (int i = 1; i <= 8; i++) {
            check.due("event " + i, x.event(i % 3, i == 1 ? 0 : 23, i - 1), i);
        }
        check.due("a ninth event", x.event(0, 0, 0), FULL);
        check.due("a bad ninth event", x.event(0, 0, 8), BAD);
        check.due("events", x.count(4), 8);
    }

    private static void back() {
        RowingEight x = new RowingEight();
        check.due("back() of none", x.back(), NOT);
        x.event(1, 0, 1);
        x.event(1, 0, 0);
        check.due("place with both", x.at(0, 1), 10);
        check.due("back()", x.back(), 1);
        check.due("the last one is gone", x.at(0, 1), 12);
        check.due("back() again", x.back(), 0);
        check.due("both are gone", x.at(0, 1), 10);
        check.due("back() once more", x.back(), NOT);
    }

    private static void read() {
        RowingEight x = new RowingEight();
        check.due("read(-1)", x.read(-1), BAD);
        check.due("read(4)", x.read(4), BAD);
        check.due("read(0), lost", x.read(0), NULL);
        check.due("the finding", x.count(8), 1);
        x.sheet(0, 0, 0);
        check.due("read of an empty sheet", x.read(0), 0);
        Check.items(x, 0, 0, 1, 0);
        check.due("read of no whole one", x.read(0), 0);
        Check.items(x, 0, 0, 1, 0, 1);
        check.due("read of just one", x.read(0), 1);
        x.back();
        Check.items(x, 0, 0, 1, 0, 1, 2, 1, 7, 1, 0);
        check.due("read of two whole ones", x.read(0), 2);
        check.due("place by what was read", x.at(0, 1), 12);
        check.due("metres by what was read", x.at(1, 0), 9);
        Check.items(x, 1, 1, 1, 0, 0, 1, 24, 0, 1, 0, 0);
        check.due("read up to one that may not be", x.read(1), 1);
        check.due("events behind those before", x.count(4), 3);
        check.due("place behind both reads", x.at(0, 1), 10);
        Check.items(x, 2, 2, 2, 0, 0, 2, 0, 0, 2, 0, 0, 2, 0, 0, 2, 0, 0, 2, 0, 0);
        check.due("read until it is full", x.read(2), 5);
        check.due("events, full", x.count(4), 8);
        check.due("read when it is full", x.read(2), 0);
        Check.items(x, 3, 2, 256, 0, 0);
        x.back();
        check.due("read of a kind that is none", x.read(3), 0);
    }
}
