/** Promises 20 to 23: what had better be otherwise. */
public final class PlansTest {
    private static final int NONE = -1, BAD = -2;
    private static final String NEVER_ROWING = "000000000000000000000000";
    private static final Check check = new Check("PlansTest");

    public static void main(String[] args) {
        swap();
        steer();
        stroke();
        spare();
        check.end();
    }

    private static void swapIs(RowingEight x, int first, int second, int metres) {
        check.due("swap(0)", x.swap(0), first);
        check.due("swap(1)", x.swap(1), second);
        check.due("swap(2)", x.swap(2), metres);
    }

    private static void swap() {
        RowingEight x = Check.eight("s9;s1;s5;s5", "", "");
        x.river(1, 999);
        swapIs(x, 0, 3, 552);
        check.due("what was told stays", x.rower(0, 1), 9);
        swapIs(new RowingEight(), NONE, NONE, NONE);
        swapIs(Check.eight("s5", "", ""), NONE, NONE, NONE);
        x = Check.eight("s5;s5", "", "");
        x.river(1, 999);
        swapIs(x, 0, 1, 312);
        x = Check.eight("s9;s1", "3" + NEVER_ROWING.substring(1), "");
        x.event(0, 0, 0);
        swapIs(x, 0, 1, 84);
        check.due("swap(-1)", x.swap(-1), BAD);
        check.due("swap(3)", x.swap(3), BAD);
        check.due("swap(3), none", new RowingEight().swap(3), BAD);
    }

    private static void steerIs(RowingEight x, int minute, int which, int stray) {
        check.due("steer(" + minute + ", 0)", x.steer(minute, 0), which);
        check.due("steer(" + minute + ", 1)", x.steer(minute, 1), stray);
    }

    private static void steer() {
        RowingEight x = new RowingEight();
        x.event(1, 3, 1);
        steerIs(x, 0, 1, 1);
        steerIs(x, 23, 1, 1);
        Check.tell(x, 2, "l");
        steerIs(x, 0, 1, 1);
        steerIs(x, 1, 1, 0);
        check.due("what was told stays", x.call(1, 1), 0);
        x = Check.eight("", "", "r");
        x.event(1, 1, 0);
        steerIs(x, 0, 2, 1);
        x = new RowingEight();
        x.river(0, 9);
        x.river(1, 50);
        x.event(1, 0, 1);
        steerIs(x, 5, 1, 1);
        steerIs(x, 6, 0, 2);
        check.due("steer(-1, 0)", x.steer(-1, 0), BAD);
        check.due("steer(24, 0)", x.steer(24, 0), BAD);
        check.due("steer(0, -1)", x.steer(0, -1), BAD);
        check.due("steer(0, 2)", x.steer(0, 2), BAD);
    }

    private static void strokeIs(RowingEight x, int minute, int which, int metres) {
        check.due("stroke(" + minute + ", 0)", x.stroke(minute, 0), which);
        check.due("stroke(" + minute + ", 1)", x.stroke(minute, 1), metres);
    }

    private static void stroke() {
        RowingEight x = Check.eight("s5;s5", "0", "");
        x.river(1, 999);
        strokeIs(x, 0, 3, 317);
        strokeIs(x, 23, 3, 307);
        check.due("what was told stays", x.call(0, 0), 0);
        x = Check.eight("s9", NEVER_ROWING, "");
        Check.gusts(x, 3, 0, 1);
        strokeIs(x, 0, 2, 80);
        x = Check.eight("s5;s5", "", "");
        x.river(1, 50);
        strokeIs(x, 4, 0, 52);
        check.due("stroke(-1, 0)", x.stroke(-1, 0), BAD);
        check.due("stroke(24, 0)", x.stroke(24, 0), BAD);
        check.due("stroke(0, -1)", x.stroke(0, -1), BAD);
        check.due("stroke(0, 2)", x.stroke(0, 2), BAD);
    }

    private static void spareIs(RowingEight x, int many, int first, int second) {
        check.due("spare(NONE)", x.spare(NONE), many);
        check.due("spare(0)", x.spare(0), first);
        check.due("spare(1)", x.spare(1), second);
    }

    private static void spare() {
        RowingEight x = new RowingEight();
        spareIs(x, 0, NONE, NONE);
        x.event(2, 0, 0);
        Check.gusts(x, 4, 0, 0);
        spareIs(x, 0, NONE, NONE);
        Check.gusts(x, 1, 0, 0);
        spareIs(x, 1, 1, NONE);
        Check.gusts(x, 1, 0, 0);
        spareIs(x, 2, 1, 2);
        Check.gusts(x, 1, 0, 0);
        spareIs(x, NONE, NONE, NONE);
        check.due("what was told stays", x.count(4), 8);
        x.back();
        spareIs(x, 2, 1, 2);
        x = new RowingEight();
        Check.gusts(x, 5, 0, 1);
        spareIs(x, 1, 0, NONE);
        Check.gusts(x, 1, 0, 1);
        spareIs(x, 2, 0, 1);
        // Behind minute 7 the boat is at 2: each gust by itself puts it at the bank.
        x = Check.eight("", "", "llllllll");
        x.event(2, 10, 0);
        x.event(1, 10, 0);
        x.event(2, 20, 0);
        x.event(1, 20, 0);
        spareIs(x, 2, 1, 3);
        x = Check.eight("s9", "", "");
        spareIs(x, NONE, NONE, NONE);
        check.due("spare(-2)", x.spare(-2), BAD);
        check.due("spare(2)", x.spare(2), BAD);
    }
}
