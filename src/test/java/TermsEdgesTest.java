/** Each boundary that "Terms" names has a test of its own here, under the words that name it. */
public final class TermsEdgesTest {
    private static final int NONE = -1, BAD = -2, FULL = -4;
    private static final String EIGHT = "s1;f2;l3;s4;f5;l6;s7;f8";
    private static final String REST = "000000000000000000000000";
    private static final Check check = new Check("TermsEdgesTest");

    public static void main(String[] args) {
        texts();
        faults();
        river();
        events();
        pulling();
        moving();
        banks();
        home();
        fractionsAndLots();
        sheets();
        check.end();
    }

    // ---- the texts

    private static void texts() {
        roomOfTexts();
        atMostEight();
        semicolonsBetween();
        sorts();
        powers();
        ratesAreFigures();
        laterRates();
        rudderSigns();
        laterRudder();
    }

    private static void roomOfTexts() {
        String[] words = {"ROWERS are a text of up to 23 bytes", "RATES are a text of up to 24 figures",
            "THE RUDDER is a text of up to 24 bytes"};
        String[] most = {EIGHT, "012301230123012301230123", "lr-lr-lr-lr-lr-lr-lr-lr-"};
        for (int text = 0; text < 3; text++) {
            check.about(words[text]);
            RowingEight x = new RowingEight();
            int room = most[text].length();
            for (int i = 0; i < room; i++) {
                check.due("byte " + i, x.type(text, most[text].charAt(i)), i + 1);
            }
            check.due("one byte too many", x.type(text, ';'), FULL);
            check.due("bytes", x.count(3), room);
            check.due("fault", x.fault(text), NONE);
            check.due("undo", x.undo(text), room - 1);
            check.due("room for one again", x.type(text, most[text].charAt(room - 1)), room);
            check.due("and no more", x.type(text, most[text].charAt(0)), FULL);
        }
    }

    private static void atMostEight() {
        check.about("8 at most, in SEATS 0 on");
        RowingEight x = Check.eight(EIGHT, "", "");
        check.due("rowers", x.count(0), 8);
        check.due("seat 0", x.rower(0, 1), 1);
        check.due("seat 7", x.rower(7, 1), 8);
        check.due("seat 8", x.rower(8, 1), BAD);
        check.due("seat -1", x.rower(-1, 1), BAD);
        check.about("here also of the first byte of a ninth of ROWERS");
        check.due("what would lead to a ninth", x.type(0, ';'), FULL);
        check.due("a ninth", x.type(0, 's'), FULL);
        check.due("fault", x.fault(0), NONE);
        check.due("rowers still", x.count(0), 8);
    }

    private static void faultOf(int text, String bytes, int due) {
        RowingEight x = new RowingEight();
        Check.tell(x, text, bytes);
        check.due("fault of '" + bytes + "'", x.fault(text), due);
    }

    private static void semicolonsBetween() {
        check.about("with ; between them");
        faultOf(0, "s1;f2", NONE);
        faultOf(0, "s1:f2", 2);
        faultOf(0, "s1<f2", 2);
        faultOf(0, "s1,f2", 2);
        faultOf(0, "s1f2", 2);
        faultOf(0, ";s1", 0);
        faultOf(0, "s1;;f2", 3);
        faultOf(0, "s;1", 1);
    }

    /** Every byte but those that fit is a fault at that place, behind what stands ahead of it. */
    private static void onlyFits(int text, String ahead, String fitting, int faultIfFits) {
        for (int b = 0; b < 256; b++) {
            RowingEight x = new RowingEight();
            Check.tell(x, text, ahead);
            x.type(text, b);
            int due = fitting.indexOf(b) >= 0 ? faultIfFits : ahead.length();
            check.due("fault with byte " + b + " behind '" + ahead + "'", x.fault(text), due);
        }
    }

    private static void sorts() {
        check.about("s (steady), f (fiery) or l (late)");
        onlyFits(0, "", "sfl", 1);
        onlyFits(0, "s1;", "sfl", 4);
        RowingEight x = Check.eight("s5;f5;l5", "", "");
        for (int seat = 0; seat < 3; seat++) {
            check.due("sort of seat " + seat, x.rower(seat, 0), seat);
        }
    }

    private static void powers() {
        check.about("and a figure 1 to 9, the POWER");
        onlyFits(0, "s", "123456789", NONE);
        onlyFits(0, "s1;f", "123456789", NONE);
        for (int power = 1; power <= 9; power++) {
            check.due("power", Check.eight("l" + power, "", "").rower(0, 1), power);
        }
    }

    private static void ratesAreFigures() {
        check.about("figures 0 to 3 (text 1), on MINUTES 0 on");
        onlyFits(1, "", "0123", NONE);
        onlyFits(1, "3210", "0123", NONE);
        RowingEight x = Check.eight("", "300000000000000000000001", "");
        check.due("minute 0", x.call(0, 0), 3);
        check.due("minute 1", x.call(1, 0), 0);
        check.due("minute 22", x.call(22, 0), 0);
        check.due("minute 23", x.call(23, 0), 1);
    }

    private static void laterRates() {
        check.about("2 on later ones");
        for (int told = 0; told <= 24; told++) {
            RowingEight x = Check.eight("", "333333333333333333333333".substring(0, told), "");
            for (int minute = 0; minute < 24; minute++) {
                check.due("rate of minute " + minute, x.call(minute, 0), minute < told ? 3 : 2);
            }
        }
    }

    private static void rudderSigns() {
        check.about("on MINUTES 0 on: l, r or - (straight)");
        onlyFits(2, "", "lr-", NONE);
        onlyFits(2, "-lr", "lr-", NONE);
        RowingEight x = Check.eight("", "", "lr--------------------rl");
        check.due("minute 0", x.call(0, 1), 1);
        check.due("minute 1", x.call(1, 1), 2);
        check.due("minute 2", x.call(2, 1), 0);
        check.due("minute 22", x.call(22, 1), 2);
        check.due("minute 23", x.call(23, 1), 1);
    }

    private static void laterRudder() {
        check.about("- on later ones");
        for (int told = 0; told <= 24; told++) {
            RowingEight x = Check.eight("", "", "rrrrrrrrrrrrrrrrrrrrrrrr".substring(0, told));
            for (int minute = 0; minute < 24; minute++) {
                check.due("rudder of minute " + minute, x.call(minute, 1), minute < told ? 2 : 0);
            }
        }
    }

    // ---- faults

    private static void faults() {
        check.about("The FAULT of a text is the place of the first byte with which it cannot go on");
        faultOf(0, "sxfx", 1);
        faultOf(0, "xs1;x", 0);
        faultOf(0, EIGHT.substring(0, 22) + "0", 22);
        faultOf(1, "4x", 0);
        faultOf(1, "01230123012301230123012x", 23);
        faultOf(2, "lxx", 1);
        faultOf(2, "lr-lr-lr-lr-lr-lr-lr-lrx", 23);
        check.about("(an empty one is well");
        for (int text = 0; text < 3; text++) {
            RowingEight x = new RowingEight();
            check.due("fault of a new one", x.fault(text), NONE);
            x.type(text, 'x');
            check.due("fault of a wrong one", x.fault(text), 0);
            x.undo(text);
            check.due("fault, undone", x.fault(text), NONE);
            x.type(text, 'x');
            x.wipe(text);
            check.due("fault, wiped", x.fault(text), NONE);
        }
        check.about("of one that is not ended, its end)");
        for (int length = 1; length <= 23; length++) {
            faultOf(0, EIGHT.substring(0, length), length % 3 == 2 ? NONE : length);
        }
        asIfEmpty();
    }

    private static void asIfEmpty() {
        check.about("With a FAULT a text is as if it was empty");
        String[] told = {"s9;f1;l4", "3011", "lr-l"};
        String[] faulty = {"s9;f1;l4;", "3011x", "lr-lx"};
        for (int text = 0; text < 3; text++) {
            RowingEight x = Check.eight(told[0], told[1], told[2]);
            RowingEight empty = Check.eight(told[0], told[1], told[2]);
            x.event(0, 2, 0);
            empty.event(0, 2, 0);
            check.holds("the text tells", !Account.asked(x).equals(Account.asked(wiped(empty, text))));
            Check.tell(x, text, faulty[text]);
            check.holds("text " + text + " is as if empty", Account.asked(x).equals(Account.asked(empty)));
            check.due("its bytes are still there", x.undo(text), told[text].length());
            Check.tell(empty, text, told[text]);
            check.holds("without the fault it tells", Account.asked(x).equals(Account.asked(empty)));
        }
    }

    private static RowingEight wiped(RowingEight x, int text) {
        x.wipe(text);
        return x;
    }

    // ---- the river

    private static void river() {
        check.about("MINUTES are 0 to 23");
        RowingEight x = Check.eight(EIGHT, "", "");
        check.due("call(-1)", x.call(-1, 0), BAD);
        check.due("call(0)", x.call(0, 0), 2);
        check.due("call(23)", x.call(23, 0), 2);
        check.due("call(24)", x.call(24, 0), BAD);
        check.about("THE STREAM is 0 to 9 metres a MINUTE (3 at first)");
        x = new RowingEight();
        check.due("3 at first", x.at(0, 0), 3);
        check.due("river(0, -1)", x.river(0, -1), BAD);
        check.due("river(0, 10)", x.river(0, 10), BAD);
        check.due("3 still", x.river(0, 0), 3);
        check.due("at 0", x.at(23, 0), 0);
        check.due("river(0, 9)", x.river(0, 9), 0);
        check.due("at 9", x.at(23, 0), 216);
        check.about("HOME is 50 to 999 metres from the start (300 at first)");
        check.due("river(1, 49)", x.river(1, 49), BAD);
        check.due("river(1, 1000)", x.river(1, 1000), BAD);
        check.due("300 at first", x.river(1, 50), 300);
        check.due("home at 50", x.there(), 5);
        check.due("river(1, 999)", x.river(1, 999), 50);
        Check.tell(x, 0, "f9;f9;f9;f9;f9;f9;f9;f9");
        Check.tell(x, 1, "33333333");
        check.due("behind minute 6", x.at(6, 0), 951);
        check.due("home at 999", x.there(), 7);
        check.due("home at 999, metres", x.at(23, 0), 1056);
    }

    // ---- events

    private static void events() {
        eightEvents();
        numbers();
        crabs();
        gusts();
        floods();
        thatMinuteAlone();
    }

    private static void eightEvents() {
        check.about("EVENTS, 8 at most (0 on)");
        RowingEight x = new RowingEight();
        for (int i = 1; i <= 8; i++) {
            check.due("event " + i, x.event(2, 0, 0), i);
        }
        check.due("a ninth", x.event(2, 0, 0), FULL);
        check.due("eight floods", x.at(0, 0), 27);
        check.due("bits 0 to 7", x.never(), 255);
        check.due("back", x.back(), 7);
        check.due("room for one again", x.event(2, 0, 0), 8);
        check.due("and no more", x.event(2, 0, 0), FULL);
    }

    private static void numbers() {
        check.about("a kind, a MINUTE, a number 0 to 7");
        for (int kind = 0; kind < 3; kind++) {
            RowingEight x = new RowingEight();
            check.due("number -1", x.event(kind, 0, -1), BAD);
            check.due("number 8", x.event(kind, 0, 8), BAD);
            check.due("minute -1", x.event(kind, -1, 0), BAD);
            check.due("minute 24", x.event(kind, 24, 0), BAD);
            check.due("number 0", x.event(kind, 0, 0), 1);
            check.due("number 7", x.event(kind, 0, 7), 2);
            check.due("minute 23", x.event(kind, 23, 0), 3);
        }
        RowingEight x = new RowingEight();
        check.due("kind -1", x.event(-1, 0, 0), BAD);
        check.due("kind 3", x.event(3, 0, 0), BAD);
    }

    private static void crabs() {
        check.about("0 the ROWER in that SEAT catches a CRAB");
        for (int crab = 0; crab < 8; crab++) {
            RowingEight x = Check.eight("s5;s5;s5;s5;s5;s5;s5;s5", "", "");
            x.event(0, 0, crab);
            for (int seat = 0; seat < 8; seat++) {
                check.due("pulls of seat " + seat, x.pulls(0, seat), seat == crab ? 0 : 5);
            }
        }
        RowingEight x = Check.eight("s5;s5", "", "");
        x.event(0, 0, 2);
        check.due("a crab behind the last rower", x.at(0, 0), 13);
    }

    private static void gusts() {
        check.about("by 2 to the right, if the number is odd, else to the left");
        for (int number = 0; number < 8; number++) {
            RowingEight x = new RowingEight();
            x.event(1, 0, number);
            check.due("gust " + number, x.at(0, 1), number % 2 == 1 ? 12 : 8);
        }
    }

    private static void floods() {
        check.about("THE STREAM is 3 more (whatever number is told)");
        for (int number = 0; number < 8; number++) {
            RowingEight x = new RowingEight();
            x.event(2, 0, number);
            check.due("flood " + number, x.at(0, 0), 6);
            check.due("place", x.at(0, 1), 10);
        }
        RowingEight x = new RowingEight();
        x.river(0, 9);
        x.event(2, 0, 0);
        check.due("more than 9", x.at(0, 0), 12);
        check.due("the stream that is told", x.count(5), 9);
    }

    private static void thatMinuteAlone() {
        check.about("each in that MINUTE alone");
        int[] minutes = {0, 5, 23};
        for (int when : minutes) {
            RowingEight x = Check.eight("s5;s5", "", "");
            x.river(1, 999);
            x.event(2, when, 0);
            RowingEight y = Check.eight("s5;s5;s1;s1", "", "");
            y.river(1, 999);
            y.event(0, when, 0);
            RowingEight z = new RowingEight();
            z.event(1, when, 1);
            for (int minute = 0; minute < 24; minute++) {
                check.due("flood", x.at(minute, 0), 13 * (minute + 1) + (minute < when ? 0 : 3));
                check.due("crab", y.pulls(minute, 0), minute == when ? 0 : 5);
                check.due("gust", z.at(minute, 1), minute < when ? 10 : 12);
            }
        }
    }

    // ---- pulling

    private static void pulling() {
        rest();
        steady();
        fiery();
        late();
    }

    private static void rest() {
        check.about("who catches a CRAB, or rows at RATE 0, does not pull");
        RowingEight x = Check.eight("s5;f5;l5", "101", "");
        x.event(0, 2, 1);
        int[][] due = {{5, 7, 4}, {0, 0, 0}, {5, 0, 4}};
        for (int minute = 0; minute < 3; minute++) {
            for (int seat = 0; seat < 3; seat++) {
                check.due("pulls(" + minute + ", " + seat + ")", x.pulls(minute, seat), due[minute][seat]);
            }
        }
        check.due("minutes of seat 1", x.done(1, 0), 22);
        check.due("minutes of seat 2", x.done(2, 0), 23);
        x = Check.eight(EIGHT, REST, "");
        check.due("nobody ever", x.done(0, 0), 0);
        check.due("by the stream alone", x.at(23, 0), 72);
    }

    private static void pullsAre(RowingEight x, int seat, int... due) {
        for (int minute = 0; minute < due.length; minute++) {
            check.due("pulls(" + minute + ", " + seat + ")", x.pulls(minute, seat), due[minute]);
        }
    }

    private static void steady() {
        check.about("else a steady one pulls by its POWER");
        pullsAre(Check.eight("s1", "", ""), 0, 1, 1, 1, 1, 1, 1, 1, 1);
        pullsAre(Check.eight("s9", "", ""), 0, 9, 9, 9, 9, 9, 9, 9, 9);
    }

    private static void fiery() {
        check.about("a fiery one by 2 more in the first six MINUTES in which it pulls (its own, by 0 too), by 1 less later");
        pullsAre(Check.eight("f9", "", ""), 0, 11, 11, 11, 11, 11, 11, 8, 8);
        RowingEight x = Check.eight("f1;f1", "", "");
        pullsAre(x, 0, 3, 3, 3, 3, 3, 3, 0, 0);
        check.due("minutes, by 0 too", x.done(0, 0), 24);
        check.due("all of that together", x.done(0, 1), 18);
        x.event(0, 2, 0);
        pullsAre(x, 0, 3, 3, 0, 3, 3, 3, 3, 0);
        pullsAre(x, 1, 3, 3, 3, 3, 3, 3, 0, 0);
        Check.tell(x, 1, "3101");
        pullsAre(x, 0, 3, 3, 0, 3, 3, 3, 3, 0);
        pullsAre(x, 1, 3, 3, 0, 3, 3, 3, 3, 0);
    }

    private static void late() {
        check.about("a late one by 1 less in the first six, by 1 more later");
        pullsAre(Check.eight("l9", "", ""), 0, 8, 8, 8, 8, 8, 8, 10, 10);
        RowingEight x = Check.eight("l1;l1", "", "");
        pullsAre(x, 0, 0, 0, 0, 0, 0, 0, 2, 2);
        check.due("minutes, by 0 too", x.done(0, 0), 24);
        check.due("all of that together", x.done(0, 1), 36);
        x.event(0, 0, 1);
        x.event(0, 6, 1);
        pullsAre(x, 0, 0, 0, 0, 0, 0, 0, 2, 2, 2);
        pullsAre(x, 1, 0, 0, 0, 0, 0, 0, 0, 0, 2);
        Check.tell(x, 1, "0000");
        pullsAre(x, 0, 0, 0, 0, 0, 0, 0, 0, 0, 0, 0, 2);
    }

    // ---- moving

    private static void moving() {
        check.about("The boat is at PLACE 10 of the river (0 the left bank, 20 the right one), 0 metres from the start");
        RowingEight x = Check.still("");
        for (int minute = 0; minute < 24; minute++) {
            check.due("metres", x.at(minute, 0), 0);
            check.due("place", x.at(minute, 1), 10);
        }
        onBy();
        aside();
        rudder();
    }

    private static int firstMetres(String crew, String rate) {
        RowingEight x = Check.eight(crew, rate, "");
        x.river(0, 0);
        return x.at(0, 0);
    }

    private static void onBy() {
        check.about("The boat goes on by RATE times (half of what all pull, cut), and THE STREAM");
        check.due("half of 1", firstMetres("s1", "3"), 0);
        check.due("half of 2", firstMetres("s1;s1", "3"), 3);
        check.due("half of 3, three strokes", firstMetres("s1;s2", "3"), 3);
        check.due("half of 3, two strokes", firstMetres("s1;s2", "2"), 2);
        check.due("half of 3, one stroke", firstMetres("s1;s2", "1"), 1);
        check.due("half of 3, no stroke", firstMetres("s1;s2", "0"), 0);
        check.due("half of 88, three strokes", firstMetres("f9;f9;f9;f9;f9;f9;f9;f9", "3"), 132);
        check.due("and the stream", Check.eight("s1;s2", "3", "").at(0, 0), 6);
    }

    private static void asideBy(String rate, String crew, int due) {
        check.due(crew + " at rate " + rate, Check.eight(crew, rate, "").at(0, 1), 10 + due);
    }

    private static void aside() {
        check.about("If the LEFT pulls more than the RIGHT, it is put to the right by (RATE times the difference) by 6, cut");
        asideBy("1", "s6;s1", 0);
        asideBy("1", "s7;s1", 1);
        asideBy("2", "s3;s1", 0);
        asideBy("2", "s4;s1", 1);
        asideBy("2", "s6;s1", 1);
        asideBy("2", "s7;s1", 2);
        asideBy("3", "s2;s1", 0);
        asideBy("3", "s3;s1", 1);
        asideBy("3", "s4;s1", 1);
        asideBy("3", "s5;s1", 2);
        asideBy("0", "s9;s1", 0);
        asideBy("3", "s5;s5", 0);
        check.about("if less, to the left by as much");
        asideBy("1", "s1;s6", 0);
        asideBy("1", "s1;s7", -1);
        asideBy("2", "s1;s3", 0);
        asideBy("2", "s1;s4", -1);
        asideBy("2", "s1;s6", -1);
        asideBy("2", "s1;s7", -2);
        asideBy("3", "s1;s2", 0);
        asideBy("3", "s1;s3", -1);
        asideBy("3", "s1;s4", -1);
        asideBy("3", "s1;s5", -2);
        asideBy("0", "s1;s9", 0);
        check.about("those of even numbers pull at the LEFT, odd ones at the RIGHT");
        for (int seat = 0; seat < 8; seat++) {
            RowingEight x = Check.eight("s1;s2;s3;s4;s5;s6;s7;s8", "1", "");
            int left = x.at(0, 2);
            int right = x.at(0, 3);
            x.event(0, 0, seat);
            check.due("left without seat " + seat, left - x.at(0, 2), seat % 2 == 0 ? seat + 1 : 0);
            check.due("right without seat " + seat, right - x.at(0, 3), seat % 2 == 1 ? seat + 1 : 0);
        }
    }

    private static void rudder() {
        check.about("by 1 by THE RUDDER (r right, l left)");
        check.due("r", Check.still("r").at(0, 1), 11);
        check.due("l", Check.still("l").at(0, 1), 9);
        check.due("-", Check.still("-").at(0, 1), 10);
        check.due("r at rate 3", Check.eight("s5;s5", "3", "r").at(0, 1), 11);
        check.due("l at rate 0", Check.eight("s5;s5", "0", "l").at(0, 1), 9);
        check.due("l in minute 23", Check.still("-----------------------l").at(23, 1), 9);
    }

    // ---- banks

    private static void bank(int gusts, int number, String rudder, int place, int aground) {
        RowingEight x = Check.still(rudder);
        Check.gusts(x, gusts, 0, number);
        String what = gusts + " gusts of " + number + " and " + rudder;
        check.due("place by " + what, x.at(0, 1), place);
        check.due("aground by " + what, x.at(0, 4), aground);
    }

    private static void banks() {
        check.about("If it comes to a bank by that (PLACE 0 or less, 20 or more), it is AGROUND in that MINUTE, at PLACE 0, 20");
        bank(4, 0, "-", 2, 0);
        bank(5, 0, "r", 1, 0);
        bank(4, 0, "l", 1, 0);
        bank(5, 0, "-", 0, 1);
        bank(5, 0, "l", 0, 1);
        bank(8, 0, "l", 0, 1);
        bank(4, 1, "-", 18, 0);
        bank(5, 1, "l", 19, 0);
        bank(4, 1, "r", 19, 0);
        bank(5, 1, "-", 20, 1);
        bank(5, 1, "r", 20, 1);
        bank(8, 1, "r", 20, 1);
        RowingEight x = Check.still("");
        Check.gusts(x, 5, 0, 0);
        x.event(1, 0, 1);
        check.due("all of the minute counts at once", x.at(0, 1), 2);
        check.due("so it is not aground", x.at(0, 4), 0);
        offTheBank();
        half();
    }

    private static void offTheBank() {
        RowingEight x = Check.still("-r-l-");
        Check.gusts(x, 6, 0, 0);
        int[] places = {0, 1, 1, 0, 0};
        int[] aground = {1, 0, 0, 1, 1};
        for (int minute = 0; minute < 5; minute++) {
            check.due("place behind minute " + minute, x.at(minute, 1), places[minute]);
            check.due("aground in minute " + minute, x.at(minute, 4), aground[minute]);
        }
    }

    private static void half() {
        check.about("and goes on by half as many metres, cut");
        for (int stream = 0; stream <= 9; stream++) {
            RowingEight x = new RowingEight();
            x.river(0, stream);
            Check.gusts(x, 5, 0, 0);
            check.due("aground, stream " + stream, x.at(0, 0), stream / 2);
        }
        // 3 times (half of 9, cut) and 3 are 15.
        RowingEight x = Check.eight("s5;s4", "3", "");
        Check.gusts(x, 5, 0, 0);
        check.due("aground, with rowers", x.at(0, 0), 7);
        x.event(2, 0, 0);
        check.due("aground, with a flood", x.at(0, 0), 9);
    }

    // ---- home

    private static void home() {
        check.about("When it is as far as HOME, or farther, it is there");
        RowingEight x = Check.eight("s5;s5", "", "");
        x.river(1, 130);
        check.due("just as far", x.there(), 9);
        x.river(1, 131);
        check.due("a metre short", x.there(), 10);
        x.river(1, 129);
        check.due("a metre farther", x.there(), 9);
        check.due("it lies where it came to", x.at(23, 0), 130);
        x.river(1, 312);
        check.due("in the last minute", x.there(), 23);
        x.river(1, 313);
        check.due("a metre too far", x.there(), NONE);
        atRest();
        homeAground();
    }

    private static void atRest() {
        check.about("and nothing moves any more, nobody pulls, it is not AGROUND");
        RowingEight x = Check.eight("s9;s5", "", "lllllllll");
        x.river(1, 50);
        // 17 metres a minute, and to the left by 1, to the right by 1: home behind minute 2, at 10.
        check.due("there", x.there(), 2);
        x.event(2, 3, 0);
        Check.gusts(x, 6, 3, 0);
        for (int minute = 3; minute < 24; minute++) {
            check.due("metres", x.at(minute, 0), 51);
            check.due("place", x.at(minute, 1), 10);
            check.due("left", x.at(minute, 2), 0);
            check.due("right", x.at(minute, 3), 0);
            check.due("aground", x.at(minute, 4), 0);
            check.due("pulls", x.pulls(minute, 0) + x.pulls(minute, 1), 0);
        }
        check.due("minutes", x.done(0, 0), 3);
        check.due("the left in the last minute", x.at(2, 2), 9);
    }

    private static void homeAground() {
        RowingEight x = new RowingEight();
        x.river(0, 9);
        x.river(1, 54);
        check.due("not aground", x.there(), 5);
        Check.gusts(x, 5, 5, 1);
        check.due("half as far is not there yet", x.there(), 7);
        check.due("metres", x.at(23, 0), 57);
        check.due("aground on the way and when it comes there, not later", x.grounded(0), 3);
        check.due("at the bank", x.at(23, 1), 20);
    }

    // ---- fractions, lots, sheets

    private static void fractionIs(RowingEight x, int c, long above, long below) {
        check.due("above, by " + c, x.chance(c, 23, 0), above);
        check.due("below, by " + c, x.chance(c, 23, 1), below);
    }

    private static void fractionsAndLots() {
        check.about("FRACTIONS are told in lowest terms, above and below (0 by 1)");
        RowingEight x = Check.still("");
        Check.gusts(x, 4, 0, 0);
        fractionIs(x, 7, 0, 1);
        x = Check.eight("", "", "llllllll");
        x.event(1, 10, 0);
        int[] below = {1, 16, 8, 16, 4, 16, 8, 16, 2, 16, 8, 16, 4, 16, 8, 16, 1};
        for (int c = 0; c <= 16; c++) {
            fractionIs(x, c, c * below[c] / 16, below[c]);
        }
        check.about("SEED becomes 1103515245 SEED and 12345, as ints that wrap; its upper 16 bits as a number from 0 on, modulo m");
        int[] seeds = {0, 1, -1, 2, 3, 12345, 99999, -99999, Integer.MAX_VALUE, Integer.MIN_VALUE};
        for (int seed : seeds) {
            lotsOf(seed);
        }
    }

    private static void lotsOf(int seed) {
        RowingEight x = Check.eight("s1;s1", "", "");
        long lot = seed & 0xFFFFFFFFL;
        int metres = 72;
        for (int n = 1; n <= 24; n++) {
            lot = (1103515245L * lot + 12345L) & 0xFFFFFFFFL;
            metres += (int) ((lot >> 16) % 4);
            check.due("years(" + seed + ", " + n + ")", x.years(seed, n, 0), metres + 2 * (24 - n));
        }
    }

    private static void sheets() {
        check.about("SHEETS 0 .. 3 are LOST (at first)");
        RowingEight x = new RowingEight();
        for (int s = 0; s < 4; s++) {
            check.due("lose(" + s + ")", x.lose(s), -11);
        }
        check.due("lose(-1)", x.lose(-1), BAD);
        check.due("lose(4)", x.lose(4), BAD);
        check.about("or a row of a FORM: 0 bytes, 1 shorts, 2 ints, of 0 to 60 items (0 at first)");
        for (int form = 0; form < 3; form++) {
            check.due("no items", x.sheet(form, form, 0), 0);
            check.due("item 0 of none", x.put(form, form, 0, 1), -12);
            check.due("sixty", x.sheet(form, form, 60), 60);
            for (int i = 0; i < 60; i++) {
                check.due("item " + i, x.get(form, form, i), 0);
            }
            check.due("the last item", x.put(form, form, 59, 1), 1);
            check.due("one behind it", x.put(form, form, 60, 1), -12);
            check.due("sixty-one", x.sheet(form, form, 61), BAD);
            check.due("the row stays", x.get(form, form, 59), 1);
        }
        check.due("form -1", x.sheet(3, -1, 5), BAD);
        check.due("form 3", x.sheet(3, 3, 5), BAD);
        check.due("it is lost still", x.lose(3), -11);
        findings();
    }

    private static void findings() {
        check.about("FINDINGS (answers -10 less the number; they change nothing but count() 8)");
        RowingEight x = new RowingEight();
        x.sheet(0, 0, 1);
        x.sheet(1, 1, 1);
        check.due("before any", x.count(8), 0);
        check.due("NULL", x.lose(2), -11);
        check.due("its number", x.count(8), 1);
        check.due("INDEX", x.put(0, 0, 1, 5), -12);
        check.due("its number", x.count(8), 2);
        check.due("CAST", x.put(0, 1, 0, 5), -13);
        check.due("its number", x.count(8), 3);
        check.due("STORE", x.copy(0, 0, 1, 0, 1), -14);
        check.due("its number", x.count(8), 4);
        check.due("SIZE", x.sheet(0, 0, -1), -15);
        check.due("its number", x.count(8), 5);
        check.due("SIZE, the least", x.sheet(0, 0, Integer.MIN_VALUE), -15);
        check.due("the item stays", x.get(0, 0, 0), 0);
        check.due("of the other too", x.get(1, 1, 0), 0);
        check.due("sheet 2 is lost still", x.lose(2), -11);
    }
}
