/** Promises 24 to 30: what was seen, chances, years. */
public final class SeenTest {
    private static final int BAD = -2, FULL = -4;
    private static final long LONG_BAD = Long.MIN_VALUE + 2;
    private static final Check check = new Check("SeenTest");

    public static void main(String[] args) {
        seen();
        forget();
        never();
        was();
        ask();
        chance();
        chancesOfMany();
        years();
        check.end();
    }

    private static void seen() {
        RowingEight x = new RowingEight();
        check.due("seen(-1, 0)", x.seen(-1, 0), BAD);
        check.due("seen(24, 0)", x.seen(24, 0), BAD);
        check.due("seen(0, -1)", x.seen(0, -1), BAD);
        check.due("seen(0, 21)", x.seen(0, 21), BAD);
        for (int i = 1; i <= 8; i++) {
            check.due("seen " + i, x.seen(i == 1 ? 0 : 23, i == 2 ? 20 : 0), i);
        }
        check.due("a ninth seen", x.seen(0, 0), FULL);
        check.due("a bad ninth seen", x.seen(0, 21), BAD);
        check.due("seen in all", x.count(7), 8);
    }

    private static void forget() {
        RowingEight x = new RowingEight();
        check.due("forget() of none", x.forget(), 0);
        x.event(1, 0, 1);
        x.seen(0, 3);
        x.seen(0, 3);
        check.due("never() before", x.never(), 0);
        check.due("forget()", x.forget(), 2);
        check.due("forget() again", x.forget(), 0);
        check.due("never() behind it", x.never(), 1);
        check.due("seen() behind it", x.seen(0, 3), 1);
    }

    private static void never() {
        RowingEight x = new RowingEight();
        check.due("never() of none", x.never(), 0);
        x.event(1, 2, 1);
        x.event(2, 4, 0);
        x.event(1, 6, 1);
        x.event(1, 2, 3);
        check.due("never(), nothing seen", x.never(), 15);
        x.seen(2, 12);
        check.due("never(), one of two", x.never(), 9);
        x.seen(23, 14);
        check.due("never(), both still", x.never(), 9);
        x.seen(6, 12);
        check.due("never(), nothing fits", x.never(), 0);
        check.due("what was told stays", x.at(23, 1), 16);
    }

    private static void was() {
        RowingEight x = Check.eight("s5;s5", "", "");
        check.due("was(0, 0), nothing seen", x.was(0, 0), 1022);
        check.due("was(0, 1), nothing seen", x.was(0, 1), 7);
        x.seen(0, 10);
        check.due("was(0, 0)", x.was(0, 0), 248);
        check.due("was(1, 0)", x.was(1, 0), 248);
        check.due("was(0, 1)", x.was(0, 1), 7);
        Check.tell(x, 1, "3");
        check.due("was(0, 0) at rate 3", x.was(0, 0), 112);
        check.due("was(0, 1) at rate 3", x.was(0, 1), 5);
        x.forget();
        x.seen(0, 11);
        check.due("was(0, 0), put aside", x.was(0, 0), 384);
        check.due("was(0, 1), put aside", x.was(0, 1), 2);
        check.due("was(1, 0), put aside", x.was(1, 0), 12);
        check.due("was(1, 1), put aside", x.was(1, 1), 0);
        x.seen(0, 12);
        check.due("was(0, 0), never so", x.was(0, 0), 0);
        check.due("what was told stays", x.rower(0, 0) * 10 + x.rower(0, 1), 5);
        check.due("was(-1, 0)", x.was(-1, 0), BAD);
        check.due("was(2, 0)", x.was(2, 0), BAD);
        check.due("was(0, -1)", x.was(0, -1), BAD);
        check.due("was(0, 2)", x.was(0, 2), BAD);
    }

    private static void ask() {
        RowingEight x = Check.eight("s5;s5", "", "");
        check.due("ask(0)", x.ask(0), 0);
        Check.tell(x, 1, "0");
        check.due("ask(0) behind a minute of rest", x.ask(0), 1);
        x.seen(1, 11);
        // 8 and 9 are left; both put the boat aside by 1 a minute, until it is at the bank.
        check.due("was(0, 0)", x.was(0, 0), 768);
        check.due("ask(0), nothing tells", x.ask(0), 0);
        Check.tell(x, 1, "02223");
        check.due("ask(0), the minute that tells", x.ask(0), 4);
        x.seen(0, 3);
        check.due("ask(0), no powers at all", x.ask(0), 0);
        x = Check.eight("s9;s9", "23", "");
        x.seen(0, 8);
        check.due("was(0, 0), three are left", x.was(0, 0), 14);
        check.due("ask(0), where one of three is alone", x.ask(0), 1);
        check.due("ask(-1)", x.ask(-1), BAD);
        check.due("ask(2)", x.ask(2), BAD);
        check.due("ask(0), no rowers", new RowingEight().ask(0), BAD);
    }

    private static void chanceIs(RowingEight x, int c, int minute, long above, long below) {
        check.due("chance(" + c + ", " + minute + ", 0)", x.chance(c, minute, 0), above);
        check.due("chance(" + c + ", " + minute + ", 1)", x.chance(c, minute, 1), below);
    }

    private static void chance() {
        RowingEight x = new RowingEight();
        chanceIs(x, 16, 23, 0, 1);
        Check.gusts(x, 5, 3, 0);
        chanceIs(x, 8, 2, 0, 1);
        chanceIs(x, 8, 3, 1, 32);
        chanceIs(x, 8, 23, 1, 32);
        chanceIs(x, 0, 23, 0, 1);
        chanceIs(x, 16, 3, 1, 1);
        chanceIs(x, 4, 3, 1, 1024);
        chanceIs(x, 12, 3, 243, 1024);
        chanceIs(x, 1, 3, 1, 1048576);
        x.event(2, 3, 0);
        chanceIs(x, 1, 3, 1, 1048576);
        check.due("what was told stays", x.count(4), 6);
        check.due("chance(-1, 0, 0)", x.chance(-1, 0, 0), LONG_BAD);
        check.due("chance(17, 0, 0)", x.chance(17, 0, 0), LONG_BAD);
        check.due("chance(0, -1, 0)", x.chance(0, -1, 0), LONG_BAD);
        check.due("chance(0, 24, 0)", x.chance(0, 24, 0), LONG_BAD);
        check.due("chance(0, 0, -1)", x.chance(0, 0, -1), LONG_BAD);
        check.due("chance(0, 0, 2)", x.chance(0, 0, 2), LONG_BAD);
    }

    private static void chancesOfMany() {
        RowingEight x = new RowingEight();
        Check.gusts(x, 8, 0, 1);
        chanceIs(x, 8, 0, 93, 256);
        // The sum of C(8, k) 15^(8 - k) for k from 5 on, by 16^8.
        chanceIs(x, 1, 0, 195421L, 4294967296L);
        x = new RowingEight();
        for (int i = 0; i < 8; i++) {
            x.event(2, i, 0);
        }
        chanceIs(x, 5, 23, 0, 1);
        x = Check.eight("s9", "", "");
        chanceIs(x, 5, 2, 0, 1);
        chanceIs(x, 5, 3, 1, 1);
        x.event(0, 0, 0);
        chanceIs(x, 5, 3, 11, 16);
        chanceIs(x, 5, 4, 1, 1);
    }

    private static void years() {
        RowingEight x = Check.eight("s5;s5", "000000", "l");
        x.river(1, 999);
        check.due("years(1, 0, 0)", x.years(1, 0, 0), 312);
        check.due("years(1, 0, 1)", x.years(1, 0, 1), 9);
        int[] seeds = {1, 0, -1, 7, Integer.MIN_VALUE, Integer.MAX_VALUE};
        for (int seed : seeds) {
            int lot = seed;
            int metres = 312;
            for (int n = 1; n <= 24; n++) {
                lot = 1103515245 * lot + 12345;
                metres += 5 * ((lot >>> 16) % 4) - 10;
                check.due("years(" + seed + ", " + n + ", 0)", x.years(seed, n, 0), metres);
            }
        }
        check.due("what was told stays", x.call(0, 0), 0);
        check.due("years(1, -1, 0)", x.years(1, -1, 0), BAD);
        check.due("years(1, 25, 0)", x.years(1, 25, 0), BAD);
        check.due("years(1, 1, -1)", x.years(1, 1, -1), BAD);
        check.due("years(1, 1, 2)", x.years(1, 1, 2), BAD);
    }
}
