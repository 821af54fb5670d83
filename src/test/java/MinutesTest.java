/** Promises 12 to 19: what comes of the minutes. */
public final class MinutesTest {
    private static final int NONE = -1, BAD = -2;
    private static final String NEVER_ROWING = "000000000000000000000000";
    private static final Check check = new Check("MinutesTest");

    public static void main(String[] args) {
        steadyOnes();
        fieryOnes();
        lateOnes();
        crabsAndRateNought();
        sides();
        rudderAndGusts();
        floods();
        banks();
        home();
        pulls();
        done();
        grounded();
        stray();
        best();
        idle();
        wrongNumbers();
        check.end();
    }

    private static void row(RowingEight x, int what, int... due) {
        for (int minute = 0; minute < due.length; minute++) {
            check.due("at(" + minute + ", " + what + ")", x.at(minute, what), due[minute]);
        }
    }

    private static void steadyOnes() {
        RowingEight x = Check.eight("s5;s5;s4", "0123", "");
        row(x, 0, 3, 13, 30, 54, 71);
        row(x, 1, 10, 10, 11, 13, 14);
        row(x, 2, 0, 9, 9, 9, 9);
        row(x, 3, 0, 5, 5, 5, 5);
        row(x, 4, 0, 0, 0, 0, 0);
    }

    private static void fieryOnes() {
        RowingEight x = Check.eight("f5", "", "");
        row(x, 0, 9, 18, 27, 36, 40, 44, 47, 50);
        row(x, 1, 12, 14, 16, 18, 20, 20, 20, 20);
        row(x, 2, 7, 7, 7, 7, 7, 7, 4, 4);
        row(x, 4, 0, 0, 0, 0, 1, 1, 1, 1);
        check.due("at(23, 0)", x.at(23, 0), 98);
    }

    private static void lateOnes() {
        RowingEight x = Check.eight("l1;l1", "", "");
        row(x, 0, 3, 6, 9, 12, 15, 18, 25, 32);
        row(x, 2, 0, 0, 0, 0, 0, 0, 2, 2);
        row(x, 3, 0, 0, 0, 0, 0, 0, 2, 2);
    }

    private static void crabsAndRateNought() {
        RowingEight x = Check.eight("l1;l1", "20", "");
        x.event(0, 3, 0);
        check.due("late, crab and rate 0 do not count", x.pulls(7, 0), 0);
        check.due("late, behind six of its own", x.pulls(8, 0), 2);
        check.due("late, rate 0 does not count", x.pulls(6, 1), 0);
        check.due("late, behind six, by 0 too", x.pulls(7, 1), 2);
        x = Check.eight("f3;s9", "", "");
        x.event(0, 0, 0);
        x.event(0, 0, 0);
        x.event(0, 1, 7);
        check.due("who catches a crab does not pull", x.pulls(0, 0), 0);
        check.due("the other one does", x.pulls(0, 1), 9);
        check.due("a crab where nobody sits", x.at(1, 2) + x.at(1, 3), 14);
        check.due("fiery, the sixth of its own", x.pulls(6, 0), 5);
        check.due("fiery, later", x.pulls(7, 0), 2);
    }

    private static void sides() {
        row(Check.eight("s9;s1", "", ""), 1, 12, 14);
        row(Check.eight("s1;s9", "", ""), 1, 8, 6);
        row(Check.eight("s1;s5", "", ""), 1, 9, 8);
        row(Check.eight("s5;s1", "", ""), 1, 11, 12);
        row(Check.eight("s3;s1", "1233", ""), 1, 10, 10, 11, 12);
        row(Check.eight("s9;s1;s1;s9", "", ""), 1, 10, 10);
        row(Check.eight("s2;s1", "", ""), 0, 5, 10);
    }

    private static void rudderAndGusts() {
        RowingEight x = Check.eight("", "00", "rr-ll");
        row(x, 1, 11, 12, 12, 11, 10, 10);
        x.event(1, 0, 7);
        x.event(1, 2, 6);
        x.event(1, 2, 0);
        x.event(1, 3, 1);
        row(x, 1, 13, 14, 10, 11, 10, 10);
    }

    private static void floods() {
        RowingEight x = new RowingEight();
        x.event(2, 1, 7);
        x.event(2, 3, 0);
        x.event(2, 3, 1);
        row(x, 0, 3, 9, 12, 21, 24);
        check.due("the stream stays as told", x.count(5), 3);
        x.river(0, 0);
        row(x, 0, 0, 3, 3, 9, 9);
    }

    private static void banks() {
        RowingEight x = Check.eight("", "", "l");
        Check.gusts(x, 4, 0, 0);
        row(x, 1, 1, 1);
        row(x, 4, 0, 0);
        x = new RowingEight();
        Check.gusts(x, 5, 0, 0);
        row(x, 1, 0, 0, 0);
        row(x, 4, 1, 1, 1);
        row(x, 0, 1, 2, 3);
        Check.tell(x, 2, "-rl");
        row(x, 1, 0, 1, 0);
        row(x, 4, 1, 0, 1);
        row(x, 0, 1, 4, 5);
        x = Check.eight("s5;s5", "", "r");
        Check.gusts(x, 5, 0, 3);
        x.event(2, 0, 0);
        row(x, 1, 20, 20);
        row(x, 4, 1, 1);
        row(x, 0, 8, 14);
        check.due("who is aground pulls", x.pulls(0, 0), 5);
        x.back();
        x.back();
        row(x, 1, 19, 19);
        row(x, 4, 0, 0);
    }

    private static void home() {
        RowingEight x = Check.eight("s5;s5", "", "");
        check.due("at(22, 0)", x.at(22, 0), 299);
        check.due("at(23, 0)", x.at(23, 0), 312);
        check.due("there()", x.there(), 23);
        x.river(1, 299);
        check.due("there(), just as far", x.there(), 22);
        check.due("nothing moves any more", x.at(23, 0), 299);
        check.due("nobody pulls any more, left", x.at(23, 2), 0);
        check.due("nobody pulls any more, right", x.at(23, 3), 0);
        check.due("pulls(23, 0)", x.pulls(23, 0), 0);
        check.due("pulls(22, 0)", x.pulls(22, 0), 5);
        x.event(1, 23, 1);
        check.due("no gust moves it", x.at(23, 1), 10);
        x.river(1, 313);
        check.due("there(), never", x.there(), NONE);
        check.due("the gust moves it", x.at(23, 1), 12);
        x = new RowingEight();
        x.river(0, 9);
        x.river(1, 50);
        Check.gusts(x, 5, 5, 1);
        row(x, 0, 9, 18, 27, 36, 45, 49, 53, 53);
        row(x, 4, 0, 0, 0, 0, 0, 1, 1, 0);
        check.due("there(), aground", x.there(), 6);
        check.due("the place stays", x.at(23, 1), 20);
    }

    private static void pulls() {
        RowingEight x = Check.eight("s5;f5;l5", "111111111", "");
        int[] fresh = {5, 7, 4};
        int[] later = {5, 4, 6};
        for (int seat = 0; seat < 3; seat++) {
            check.due("pulls(0, " + seat + ")", x.pulls(0, seat), fresh[seat]);
            check.due("pulls(5, " + seat + ")", x.pulls(5, seat), fresh[seat]);
            check.due("pulls(6, " + seat + ")", x.pulls(6, seat), later[seat]);
            check.due("pulls(23, " + seat + ")", x.pulls(23, seat), later[seat]);
        }
    }

    private static void done() {
        RowingEight x = Check.eight("f5;l1", "", "");
        check.due("fiery, done(0, 0)", x.done(0, 0), 24);
        check.due("fiery, done(0, 1)", x.done(0, 1), 114);
        check.due("late, by 0 too", x.done(1, 0), 24);
        check.due("late, together", x.done(1, 1), 36);
        x.event(0, 0, 0);
        Check.tell(x, 1, "333000000000000000000000");
        check.due("fiery with a crab, done(0, 0)", x.done(0, 0), 2);
        check.due("without the rate, done(0, 1)", x.done(0, 1), 14);
        check.due("late, done(1, 0)", x.done(1, 0), 3);
        check.due("late, done(1, 1)", x.done(1, 1), 0);
    }

    private static void grounded() {
        RowingEight x = Check.eight("f5", "", "");
        check.due("grounded(0)", x.grounded(0), 20);
        check.due("grounded(1)", x.grounded(1), 4);
        x = new RowingEight();
        Check.gusts(x, 5, 0, 1);
        check.due("grounded(0), from the start", x.grounded(0), 24);
        check.due("grounded(1), from the start", x.grounded(1), 0);
        x.back();
        check.due("grounded(0), never", x.grounded(0), 0);
        check.due("grounded(1), never", x.grounded(1), NONE);
    }

    private static void stray() {
        RowingEight x = Check.eight("", "", "lllrrrrr");
        check.due("stray(0)", x.stray(0), 2);
        check.due("stray(1)", x.stray(1), 3);
        Check.tell(x, 2, "l");
        check.due("stray(0), to the left", x.stray(0), 1);
        check.due("stray(1), to the left", x.stray(1), 1);
        x = new RowingEight();
        check.due("stray(1), never", x.stray(1), 0);
        x.event(1, 0, 1);
        x.event(1, 1, 0);
        check.due("stray(0), there and back", x.stray(0), 0);
        check.due("stray(1), there and back", x.stray(1), 2);
    }

    private static void best() {
        check.due("best() of none", new RowingEight().best(), NONE);
        check.due("best(), like ones", Check.eight("s4;s5;s5", "", "").best(), 1);
        check.due("best(), in all minutes", Check.eight("s6;f5", "", "").best(), 0);
        check.due("best(), in six minutes", Check.eight("s6;f5", "222222000000000000000000", "").best(), 1);
        check.due("best(), nobody ever", Check.eight("s6;f5", NEVER_ROWING, "").best(), NONE);
        RowingEight x = Check.eight("l1;l1", "", "");
        x.river(0, 9);
        x.river(1, 50);
        x.event(0, 0, 0);
        check.due("best(), by 0 alone", x.best(), 0);
        check.due("idle(), by 0 alone", x.idle(), 0);
    }

    private static void idle() {
        check.due("idle() of none", new RowingEight().idle(), 0);
        check.due("idle(), all", Check.eight("s6;f5;l1", NEVER_ROWING, "").idle(), 7);
        RowingEight x = Check.eight("s6;f5;l1", "200000000000000000000000", "");
        check.due("idle(), nobody", x.idle(), 0);
        x.event(0, 0, 1);
        check.due("idle(), by a crab", x.idle(), 2);
        check.due("best(), by a crab", x.best(), 0);
    }

    private static void wrongNumbers() {
        RowingEight x = Check.eight("s5;s5", "", "");
        check.due("at(-1, 0)", x.at(-1, 0), BAD);
        check.due("at(24, 0)", x.at(24, 0), BAD);
        check.due("at(0, -1)", x.at(0, -1), BAD);
        check.due("at(0, 5)", x.at(0, 5), BAD);
        check.due("pulls(-1, 0)", x.pulls(-1, 0), BAD);
        check.due("pulls(24, 0)", x.pulls(24, 0), BAD);
        check.due("pulls(0, -1)", x.pulls(0, -1), BAD);
        check.due("pulls(0, 2)", x.pulls(0, 2), BAD);
        check.due("done(-1, 0)", x.done(-1, 0), BAD);
        check.due("done(2, 0)", x.done(2, 0), BAD);
        check.due("done(0, -1)", x.done(0, -1), BAD);
        check.due("done(0, 2)", x.done(0, 2), BAD);
        check.due("grounded(-1)", x.grounded(-1), BAD);
        check.due("grounded(2)", x.grounded(2), BAD);
        check.due("stray(-1)", x.stray(-1), BAD);
        check.due("stray(2)", x.stray(2), BAD);
    }
}
