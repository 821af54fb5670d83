import java.util.Random;

/** Long runs of calls by lots, wrong ones among them, on the class and on the model beside it. */
public final class ModelTest {
    private static final Check check = new Check("ModelTest");
    private static final int RUNS = 150, CALLS = 400;
    private static final int[] ODD = {-1, -2, 24, 25, 8, 60, 61, 256, 1000, Integer.MIN_VALUE, Integer.MAX_VALUE};

    private final Random lots;
    private final RowingEight x = new RowingEight();
    private final Model y = new Model();

    private ModelTest(long seed) {
        lots = new Random(seed);
    }

    public static void main(String[] args) {
        for (int run = 0; run < RUNS; run++) {
            new ModelTest(run).go();
        }
        check.end();
    }

    private void go() {
        tellAll();
        for (int i = 0; i < CALLS; i++) {
            int kind = lots.nextInt(12);
            if (kind < 3) tell();
            else if (kind < 6) askMinutes();
            else if (kind < 8) askPlans();
            else if (kind < 10) askSeen();
            else sheets();
        }
    }

    /** Mostly below the bound, now and then just beside it or far away. */
    private int some(int bound) {
        int lot = lots.nextInt(40);
        return lot == 0 ? ODD[lots.nextInt(ODD.length)] : lot == 1 ? bound : lots.nextInt(bound);
    }

    private void due(String call, long got, long want) {
        check.due(call, got, want);
    }

    private void text(int text, String bytes) {
        due("wipe", x.wipe(text), y.wipe(text));
        for (int i = 0; i < bytes.length(); i++) {
            due("type", x.type(text, bytes.charAt(i)), y.type(text, bytes.charAt(i)));
        }
    }

    private String lotsOf(String signs, int most) {
        StringBuilder text = new StringBuilder();
        int many = lots.nextInt(most + 1);
        for (int i = 0; i < many; i++) text.append(signs.charAt(lots.nextInt(signs.length())));
        return text.toString();
    }

    private String crew() {
        StringBuilder crew = new StringBuilder();
        int many = lots.nextInt(9);
        for (int i = 0; i < many; i++) {
            crew.append(i > 0 ? ";" : "").append("sfl".charAt(lots.nextInt(3))).append(1 + lots.nextInt(9));
        }
        return crew.toString();
    }

    private void tellAll() {
        text(0, crew());
        text(1, lotsOf("0122333", 24));
        text(2, lotsOf("lr-", 24));
        int home = 50 + lots.nextInt(950);
        due("river", x.river(1, home), y.river(1, home));
    }

    private void tell() {
        int a = some(3), b = some(24), c = some(8), v = lots.nextInt(256);
        switch (lots.nextInt(12)) {
            case 0: due("type", x.type(a, v), y.type(a, v)); break;
            case 1: due("undo", x.undo(a), y.undo(a)); break;
            case 2: text(0, crew()); break;
            case 3: text(1, lotsOf("0123", 24)); break;
            case 4: text(2, lotsOf("lr-", 24)); break;
            case 5: text(0, lotsOf("sfl19;", 24)); break;
            case 6: due("river", x.river(a, c), y.river(a, c)); break;
            case 7: due("river", x.river(a, 4 * v), y.river(a, 4 * v)); break;
            case 8: due("back", x.back(), y.back()); break;
            default: due("event(" + a + ", " + b + ", " + c + ")", x.event(a, b, c), y.event(a, b, c)); break;
        }
    }

    private void askMinutes() {
        int minute = some(24), seat = some(8), what = some(2), at = some(5), text = some(3);
        switch (lots.nextInt(11)) {
            case 0: due("fault", x.fault(text), y.fault(text)); break;
            case 1: due("rower", x.rower(seat, what), y.rower(seat, what)); break;
            case 2: due("call", x.call(minute, what), y.call(minute, what)); break;
            case 3: due("pulls", x.pulls(minute, seat), y.pulls(minute, seat)); break;
            case 4: due("done", x.done(seat, what), y.done(seat, what)); break;
            case 5: due("there", x.there(), y.there()); break;
            case 6: due("grounded", x.grounded(what), y.grounded(what)); break;
            case 7: due("stray", x.stray(what), y.stray(what)); break;
            case 8: due("best", x.best(), y.best()); break;
            case 9: due("idle", x.idle(), y.idle()); break;
            default: due("at(" + minute + ", " + at + ")", x.at(minute, at), y.at(minute, at)); break;
        }
    }

    private void askPlans() {
        int minute = some(24), what = some(2), swap = some(3), spare = some(4) - 2;
        switch (lots.nextInt(4)) {
            case 0: due("swap", x.swap(swap), y.swap(swap)); break;
            case 1: due("steer", x.steer(minute, what), y.steer(minute, what)); break;
            case 2: due("stroke", x.stroke(minute, what), y.stroke(minute, what)); break;
            default: due("spare(" + spare + ")", x.spare(spare), y.spare(spare)); break;
        }
    }

    private void askSeen() {
        int minute = some(24), seat = some(8), what = some(2), place = some(21), c = some(17), n = some(25);
        int seed = lots.nextInt(), real = y.at(lots.nextInt(24), 1);
        switch (lots.nextInt(9)) {
            case 0: due("seen", x.seen(minute, place), y.seen(minute, place)); break;
            case 1: due("seen", x.seen(minute, real), y.seen(minute, real)); break;
            case 2: due("forget", x.forget(), y.forget()); break;
            case 3: due("never", x.never(), y.never()); break;
            case 4: due("was", x.was(seat, what), y.was(seat, what)); break;
            case 5: due("ask", x.ask(seat), y.ask(seat)); break;
            case 6: due("chance", x.chance(c, minute, what), y.chance(c, minute, what)); break;
            case 7: due("years", x.years(seed, n, what), y.years(seed, n, what)); break;
            default: due("seen so", x.seen(3, y.at(3, 1)), y.seen(3, y.at(3, 1))); break;
        }
    }

    private void sheets() {
        int s = some(4), t = some(4), form = some(3), n = some(61), i = some(12), j = some(12), what = some(2);
        int v = lots.nextBoolean() ? lots.nextInt(8) : lots.nextInt(), count = some(9);
        switch (lots.nextInt(11)) {
            case 0: due("sheet", x.sheet(s, form, n), y.sheet(s, form, n)); break;
            case 1: due("sheet", x.sheet(s, form, i), y.sheet(s, form, i)); break;
            case 2: due("lose", x.lose(s), y.lose(s)); break;
            case 3: case 4: due("put", x.put(s, form, i, v), y.put(s, form, i, v)); break;
            case 5: due("get", x.get(s, form, i), y.get(s, form, i)); break;
            case 6: due("copy", x.copy(s, i, t, j, n), y.copy(s, i, t, j, n)); break;
            case 7: due("copy", x.copy(s, i, s, j, form), y.copy(s, i, s, j, form)); break;
            case 8: due("write", x.write(what, s), y.write(what, s)); break;
            case 9: due("read", x.read(s), y.read(s)); break;
            default: due("count", x.count(count), y.count(count)); break;
        }
    }
}
