import java.math.BigInteger;

/** Each boundary that the parts 2 to 4 of the document name has a test of its own here. */
public final class PartsEdgesTest {
    private static final int NONE = -1;
    private static final String REST = "000000000000000000000000";
    private static final String STRONGEST = "f9;f9;f9;f9;f9;f9;f9;f9";
    private static final Check check = new Check("PartsEdgesTest");

    public static void main(String[] args) {
        there();
        grounded();
        stray();
        best();
        idle();
        swap();
        steer();
        stroke();
        spare();
        seen();
        never();
        powers();
        sorts();
        ask();
        chance();
        years();
        check.end();
    }

    // ---- part 2

    private static void there() {
        check.about("THERE: the MINUTE in which it comes HOME; NONE");
        RowingEight x = Check.eight(STRONGEST, "3", "");
        check.due("never so far", new RowingEight().there(), NONE);
        x.river(1, 135);
        check.due("in minute 0", x.there(), 0);
        x.river(1, 136);
        check.due("a metre short in minute 0", x.there(), 1);
        x = Check.still("");
        check.due("it does not move at all", x.there(), NONE);
        Check.gusts(x, 5, 0, 0);
        check.due("it lies at a bank", x.there(), NONE);
    }

    private static void groundedIs(RowingEight x, int many, int first) {
        check.due("grounded(0)", x.grounded(0), many);
        check.due("grounded(1)", x.grounded(1), first);
    }

    private static void grounded() {
        check.about("GROUNDED: in how many MINUTES it is AGROUND; the first one; NONE");
        groundedIs(Check.still(""), 0, NONE);
        groundedIs(Check.still("llllllllll"), 15, 9);
        groundedIs(Check.still("llllllllllr"), 1, 9);
        groundedIs(Check.still("rrrrrrrrrl----------r--l"), 0, NONE);
        groundedIs(Check.still("rrrrrrrrrl-----------rr-"), 2, 22);
        groundedIs(Check.still("rrrrrrrrrl------------rr"), 1, 23);
        RowingEight x = Check.still("");
        Check.gusts(x, 5, 0, 1);
        groundedIs(x, 24, 0);
        x = Check.eight(STRONGEST, "3", "");
        x.river(1, 50);
        Check.gusts(x, 5, 0, 1);
        groundedIs(x, 1, 0);
    }

    private static void strayIs(String rudder, int last, int farthest) {
        RowingEight x = Check.still(rudder);
        check.due("stray(0) by " + rudder, x.stray(0), last);
        check.due("stray(1) by " + rudder, x.stray(1), farthest);
    }

    private static void stray() {
        check.about("STRAY: how far it is from PLACE 10 behind MINUTE 23; the farthest that it ever is behind a MINUTE");
        strayIs("", 0, 0);
        strayIs("r", 1, 1);
        strayIs("l", 1, 1);
        strayIs("rl", 0, 1);
        strayIs("lr", 0, 1);
        strayIs("rrrllll", 1, 3);
        strayIs("lllrrrr", 1, 3);
        strayIs("lllrrrrrrrr", 5, 5);
        strayIs("llllllllllllllllllllllll", 10, 10);
        strayIs("rrrrrrrrrrrrrrrrrrrrrrrr", 10, 10);
        strayIs("-----------------------r", 1, 1);
        strayIs("----------------------lr", 0, 1);
    }

    private static void best() {
        check.about("BEST: who pulls most, all together, of like ones the least SEAT; NONE: nobody ever");
        check.due("no rowers", new RowingEight().best(), NONE);
        check.due("rate 0 throughout", Check.eight("s9;s9", REST, "").best(), NONE);
        check.due("one", Check.eight("s1", "", "").best(), 0);
        check.due("eight like ones", Check.eight("s5;s5;s5;s5;s5;s5;s5;s5", "", "").best(), 0);
        check.due("the last one", Check.eight("s5;s5;s5;s5;s5;s5;s5;s6", "", "").best(), 7);
        check.due("like ones behind a weaker one", Check.eight("s4;s5;s5;s4", "", "").best(), 1);
        RowingEight x = Check.eight("s5;s5", "", "");
        x.event(0, 0, 0);
        check.due("one minute less", x.best(), 1);
        x = Check.eight("s9;l9", "1" + REST.substring(1), "");
        x.event(0, 0, 0);
        check.due("who alone pulls", x.best(), 1);
        x.event(0, 0, 1);
        check.due("both catch a crab in the one minute", x.best(), NONE);
        x = Check.eight("l1;l1", "1" + REST.substring(1), "");
        check.due("by 0 is pulling too", x.best(), 0);
        check.due("their pulls together", x.done(0, 1) + x.done(1, 1), 0);
    }

    private static void idle() {
        check.about("IDLE: ROWERS who never pull, as bits");
        check.due("no rowers", new RowingEight().idle(), 0);
        check.due("eight who pull", Check.eight(STRONGEST, "", "").idle(), 0);
        check.due("eight who never pull", Check.eight(STRONGEST, REST, "").idle(), 255);
        check.due("three who never pull", Check.eight("s1;f1;l1", REST, "").idle(), 7);
        RowingEight x = Check.eight(STRONGEST, REST.substring(1) + "1", "");
        check.due("in minute 23", x.idle(), 0);
        x.event(0, 23, 0);
        x.event(0, 23, 7);
        check.due("crabs in seats 0 and 7", x.idle(), 129);
        check.due("by 0 is pulling too", Check.eight("l1", "1" + REST.substring(1), "").idle(), 0);
    }

    // ---- part 3

    private static void swapIs(String what, RowingEight x, int first, int other, int metres) {
        check.due(what + ", swap(0)", x.swap(0), first);
        check.due(what + ", swap(1)", x.swap(1), other);
        check.due(what + ", swap(2)", x.swap(2), metres);
    }

    private static void swap() {
        check.about("NONE: there are less than two");
        swapIs("no rowers", new RowingEight(), NONE, NONE, NONE);
        swapIs("one", Check.eight("f9", "", ""), NONE, NONE, NONE);
        swapIs("two and a fault", Check.eight("f9;s1;", "", ""), NONE, NONE, NONE);
        swapIs("two", Check.eight("s1;s1", REST, ""), 0, 1, 72);
        RowingEight x = Check.eight("s1;s1", REST, "");
        x.river(0, 0);
        swapIs("two who do not move", x, 0, 1, 0);
        check.about("of like ones the least row");
        swapIs("eight like ones", Check.eight("s1;s1;s1;s1;s1;s1;s1;s1", REST, ""), 0, 1, 72);
        // Seats 0 and 3, or 1 and 2, make both sides alike.
        swapIs("two ways", Check.eight("s9;s1;s5;s5", "1111111111", ""), 0, 3, 314);
        x = Check.eight("s9;s1;s5;s5", "1", "");
        x.river(1, 999);
        swapIs("two ways, far from home", x, 0, 3, 542);
        check.about("the two ROWERS (the first SEAT less) who had better change SEATS (CRABS are of SEATS)");
        // Who sits in seat 7 never pulls: the weakest had better sit there.
        x = Check.eight("s5;s5;s5;s1;s5;s5;s5;s5", "1" + REST.substring(1), "");
        x.event(0, 0, 7);
        swapIs("a crab in the last seat", x, 3, 7, 17 + 23 * 3 + 3);
        // One minute, and only one of two pulls in it: the sort comes along with the power.
        x = Check.eight("f1;s9", "1" + REST.substring(1), "");
        x.event(0, 0, 0);
        swapIs("the fiery one pulls by 3", x, 0, 1, 72 + 1);
        x.back();
        x.event(0, 0, 1);
        swapIs("the steady one pulls by 9", x, 0, 1, 72 + 4);
    }

    private static void steerIs(String what, RowingEight x, int minute, int which, int stray) {
        check.due(what + ", steer(" + minute + ", 0)", x.steer(minute, 0), which);
        check.due(what + ", steer(" + minute + ", 1)", x.steer(minute, 1), stray);
    }

    private static void steer() {
        check.about("STEER in a MINUTE: THE RUDDER (0 -, 1 l, 2 r), in place of what is told, by which STRAY (behind MINUTE 23) is least");
        steerIs("straight", Check.still(""), 0, 0, 0);
        steerIs("told l", Check.still("l"), 0, 0, 0);
        steerIs("told l, later", Check.still("l"), 1, 2, 0);
        steerIs("told r, later", Check.still("r"), 23, 1, 0);
        steerIs("told rr", Check.still("rr"), 1, 1, 0);
        steerIs("at the left bank", Check.still("llllllllllllllllllllllll"), 23, 2, 9);
        steerIs("at the right bank", Check.still("rrrrrrrrrrrrrrrrrrrrrrrr"), 23, 1, 9);
        check.about("of like ones the least: which; how far");
        steerIs("at the bank later, whatever it is", Check.still("llllllllllllllllllllllll"), 0, 0, 10);
        RowingEight x = Check.eight(STRONGEST, "3", "r");
        steerIs("at home", x, 23, 0, 1);
        // Whatever is called in minute 0, it is at the left bank behind minute 11, and 1 off it later.
        x = Check.still("-lllllllllllr");
        steerIs("all three alike", x, 0, 0, 9);
    }

    private static void strokeIs(String what, RowingEight x, int minute, int which, int metres) {
        check.due(what + ", stroke(" + minute + ", 0)", x.stroke(minute, 0), which);
        check.due(what + ", stroke(" + minute + ", 1)", x.stroke(minute, 1), metres);
    }

    private static void stroke() {
        check.about("STROKE in a MINUTE: the RATE, in place of what is told, by which the boat is farthest behind MINUTE 23");
        RowingEight x = Check.eight("s1;s1", REST, "");
        strokeIs("the greatest", x, 0, 3, 75);
        strokeIs("the greatest, last minute", x, 23, 3, 75);
        x = Check.eight("s1;s1", "333333333333333333333333", "");
        strokeIs("as told", x, 5, 3, 144);
        x.river(0, 0);
        Check.tell(x, 1, REST);
        strokeIs("in one minute alone", x, 12, 3, 3);
        check.about("of like ones the least: which; how far");
        strokeIs("no rowers", new RowingEight(), 0, 0, 72);
        strokeIs("nothing moves", Check.still(""), 23, 0, 0);
        strokeIs("one pulls by 1, half of that cut", Check.eight("s1", REST, ""), 3, 0, 72);
        x = Check.eight("s5;s5", "", "");
        x.river(1, 50);
        strokeIs("at home", x, 20, 0, 52);
    }

    private static void spareIs(String what, RowingEight x, int many, int first, int second) {
        check.due(what + ", spare(NONE)", x.spare(NONE), many);
        check.due(what + ", spare(0)", x.spare(0), first);
        check.due(what + ", spare(1)", x.spare(1), second);
    }

    private static void spare() {
        check.about("SPARE: the fewest EVENTS (0 to 2) that had better not be, so that it is never AGROUND");
        RowingEight x = Check.still("");
        spareIs("no events", x, 0, NONE, NONE);
        Check.gusts(x, 4, 23, 0);
        spareIs("four gusts", x, 0, NONE, NONE);
        x.event(1, 23, 0);
        spareIs("five gusts", x, 1, 0, NONE);
        x.event(1, 23, 0);
        spareIs("six gusts", x, 2, 0, 1);
        x.event(1, 23, 0);
        spareIs("seven gusts", x, NONE, NONE, NONE);
        check.about("the i-th; NONE");
        spareIs("no events, aground", Check.still("llllllllll"), NONE, NONE, NONE);
        check.about("of like ones the least row (each more than the one ahead)");
        // The boat is at 2: each of the two gusts, events 2 and 5, puts it at the bank by itself.
        x = Check.still("llllllll");
        int[] kinds = {2, 2, 1, 2, 0, 1, 2, 2};
        for (int i = 0; i < 8; i++) {
            x.event(kinds[i], 9, 0);
        }
        spareIs("the two that matter", x, 2, 2, 5);
        x = Check.still("lllllll");
        for (int i = 0; i < 8; i++) {
            x.event(i < 6 ? 2 : 1, 9, 0);
        }
        spareIs("the last two, either", x, 1, 6, NONE);
        // What puts it off the bank had better stay, what puts it on had better not be.
        x = Check.still("lllllllll");
        x.event(1, 9, 1);
        x.event(1, 9, 0);
        x.event(1, 10, 0);
        spareIs("one that helps stays", x, 1, 1, NONE);
    }

    // ---- part 4

    private static void seen() {
        check.about("SEEN, 8 at most: behind a MINUTE the boat was at a PLACE (0 to 20)");
        RowingEight x = Check.still("llllllllll--------------");
        x.event(2, 0, 0);
        check.due("at the left bank", x.seen(9, 0), 1);
        check.due("so it was", x.never(), 1);
        for (int i = 2; i <= 8; i++) {
            check.due("seen " + i, x.seen(23, 0), i);
        }
        check.due("so it was, by all eight", x.never(), 1);
        check.due("a ninth", x.seen(0, 5), -4);
        check.due("the ninth does not count", x.never(), 1);
        x.forget();
        for (int i = 1; i <= 8; i++) {
            x.seen(23, i == 8 ? 20 : 0);
        }
        check.due("the eighth counts", x.never(), 0);
        x = Check.still("rrrrrrrrrr");
        x.event(2, 0, 0);
        x.seen(9, 20);
        check.due("at the right bank", x.never(), 1);
        x.seen(8, 20);
        check.due("not yet", x.never(), 0);
    }

    private static void never() {
        check.about("NEVER: EVENTS each of which, had it alone not been, makes all that was SEEN come out so, as bits");
        RowingEight x = Check.still("");
        check.due("no events, nothing seen", x.never(), 0);
        x.seen(23, 10);
        check.due("no events, seen so", x.never(), 0);
        x.forget();
        for (int i = 0; i < 8; i++) {
            x.event(1, i, i);
        }
        check.due("eight, nothing seen", x.never(), 255);
        x.seen(23, 12);
        check.due("a gust to the left never was", x.never(), 0x55);
        x.seen(7, 12);
        check.due("seen once more", x.never(), 0x55);
        x.seen(6, 10);
        check.due("one of the first four to the left", x.never(), 0x55);
        x.seen(0, 10);
        check.due("the first one", x.never(), 1);
        x.seen(1, 10);
        check.due("not so by any", x.never(), 0);
        x = Check.still("");
        Check.gusts(x, 2, 0, 1);
        x.seen(0, 10);
        check.due("both, but not one alone", x.never(), 0);
        x.forget();
        x.seen(0, 14);
        check.due("all is as told, but not without one", x.never(), 0);
    }

    private static void powers() {
        check.about("POWERS of a ROWER: 1 to 9, in place of its own, likewise, as bits (bit 1 on)");
        RowingEight x = Check.eight("s5", "3" + REST.substring(1), "");
        check.due("nothing seen", x.was(0, 0), 0x3FE);
        x.seen(0, 10);
        check.due("1 alone", x.was(0, 0), 1 << 1);
        x.forget();
        x.seen(0, 14);
        check.due("8 and 9", x.was(0, 0), 1 << 8 | 1 << 9);
        Check.tell(x, 0, "s5;s1");
        check.due("9 alone", x.was(0, 0), 1 << 9);
        Check.tell(x, 0, "s5;s2");
        check.due("none", x.was(0, 0), 0);
        check.due("none of the other", x.was(1, 0), 0);
        x.forget();
        check.due("the other, nothing seen", x.was(1, 0), 0x3FE);
    }

    private static void sorts() {
        check.about("SORT of a ROWER: 0 s, 1 f, 2 l, in place of its own, likewise, as bits");
        RowingEight x = Check.eight("s4", "3" + REST.substring(1), "");
        check.due("nothing seen", x.was(0, 1), 7);
        // 4, 6 and 3 by each of three strokes: by 2, 3 and 1 to the right.
        int[] bits = {4, 1, 2};
        for (int place = 11; place <= 13; place++) {
            x.seen(0, place);
            check.due("seen at " + place, x.was(0, 1), bits[place - 11]);
            x.forget();
        }
        x.seen(0, 14);
        check.due("none", x.was(0, 1), 0);
    }

    private static void ask() {
        check.about("ASK of a ROWER: the MINUTE behind which the greatest number of those of POWERS by which the boat is at the like PLACE is least");
        RowingEight x = Check.eight("s5", REST, "");
        check.due("nothing ever tells", x.ask(0), 0);
        Check.tell(x, 1, REST.substring(1) + "1");
        check.due("the last minute tells", x.ask(0), 23);
        // At rate 1 the powers 1 to 5, and 6 to 9, end alike; at rate 3 two at most.
        Check.tell(x, 1, "13" + REST.substring(2));
        check.due("the greatest number, not the least", x.ask(0), 1);
        // At rate 1 only 9 against 3 puts the boat aside, or only 1 against 7 does.
        Check.tell(x, 1, "01" + REST.substring(2));
        Check.tell(x, 0, "s5;s3");
        check.due("9 alone is elsewhere", x.ask(0), 1);
        Check.tell(x, 0, "s5;s7");
        check.due("1 alone is elsewhere", x.ask(0), 1);
        check.about("of like ones the least");
        Check.tell(x, 0, "s5");
        Check.tell(x, 1, "3" + REST.substring(1));
        check.due("all later minutes are like the first", x.ask(0), 0);
        Check.tell(x, 1, REST.substring(4) + "3000");
        check.due("and like the first that tells", x.ask(0), 20);
        x.seen(0, 9);
        check.due("none of POWERS", x.was(0, 0), 0);
        check.due("so minute 0", x.ask(0), 0);
        x.forget();
        x.seen(20, 10);
        check.due("one of POWERS", x.was(0, 0), 2);
        check.due("nothing is left to ask", x.ask(0), 0);
    }

    private static void chanceIs(RowingEight x, int c, int minute, long above, long below) {
        check.due("above, by " + c + ", minute " + minute, x.chance(c, minute, 0), above);
        check.due("below, by " + c + ", minute " + minute, x.chance(c, minute, 1), below);
    }

    private static void chance() {
        check.about("the chance that the boat is ever AGROUND by a MINUTE (that one too): a FRACTION");
        RowingEight x = Check.still("llllllll");
        chanceIs(x, 16, 23, 0, 1);
        x.event(1, 10, 0);
        x.event(1, 11, 1);
        chanceIs(x, 3, 9, 0, 1);
        chanceIs(x, 3, 10, 3, 16);
        chanceIs(x, 3, 11, 3, 16);
        chanceIs(x, 3, 23, 3, 16);
        x.event(1, 23, 0);
        // The last gust too, but for the one to the right: 3 (16 16) + 13 (3 13) in 4096.
        chanceIs(x, 3, 22, 3, 16);
        chanceIs(x, 3, 23, 1275, 4096);
        x = Check.still("");
        Check.gusts(x, 5, 0, 0);
        chanceIs(x, 1, 0, 1, 1048576);
        check.about("each of EVENTS is by c sixteenths (0 to 16), by itself");
        chanceIs(x, 0, 23, 0, 1);
        chanceIs(x, 16, 23, 1, 1);
        chanceIs(x, 15, 23, 759375, 1048576);
        Check.tell(x, 2, "llllllllll");
        chanceIs(x, 0, 9, 1, 1);
        chanceIs(x, 0, 8, 0, 1);
        chanceIs(x, 16, 0, 1, 1);
        x = Check.still("");
        Check.gusts(x, 8, 0, 0);
        chanceIs(x, 0, 23, 0, 1);
        chanceIs(x, 16, 0, 1, 1);
        // Eight of sixteenths: what stands below is 16 to the power 8, above any int.
        chanceIs(x, 15, 0, aboveOfEight(), 4294967296L);
    }

    /** Five or more of eight, each by 15 sixteenths. */
    private static long aboveOfEight() {
        long sum = 0;
        long[] ways = {56, 28, 8, 1};
        for (int k = 5; k <= 8; k++) {
            long product = ways[k - 5];
            for (int i = 0; i < k; i++) {
                product *= 15;
            }
            sum += product;
        }
        return sum;
    }

    private static void years() {
        check.about("n LOTS of 4 (0 to 24) are RATES, in place of those told (2 on later MINUTES)");
        RowingEight x = Check.eight("s1;s1", "333333333333333333333333", "rrr");
        check.due("no lots: 2 throughout", x.years(5, 0, 0), 120);
        check.due("no lots: the place", x.years(5, 0, 1), 13);
        Check.tell(x, 1, "x");
        check.due("rates with a fault do not matter", x.years(5, 0, 0), 120);
        RowingEight y = new RowingEight();
        Check.tell(y, 0, "s1;s1");
        for (int n = 0; n <= 24; n++) {
            check.due("what was told does not matter", x.years(-77, n, 0), y.years(-77, n, 0));
        }
        check.due("four lots", y.years(1, 4, 0), 120 + lots(1, 4) - 8);
        check.due("all minutes by lots", y.years(1, 24, 0), 72 + lots(1, 24));
        check.due("all minutes by lots, the place", y.years(1, 24, 1), 10);
    }

    private static int lots(int seed, int n) {
        BigInteger lot = BigInteger.valueOf(seed);
        BigInteger factor = BigInteger.valueOf(1103515245);
        BigInteger turn = BigInteger.ONE.shiftLeft(32);
        int sum = 0;
        for (int i = 0; i < n; i++) {
            lot = lot.multiply(factor).add(BigInteger.valueOf(12345)).mod(turn);
            sum += lot.shiftRight(16).intValue() % 4;
        }
        return sum;
    }
}
