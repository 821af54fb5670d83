import java.util.ArrayList;
import java.util.List;

/** All that can be asked of an object, so that two of them can be compared. */
final class Account {
    private Account() {
    }

    /** What comes of what is told, whatever the texts are spelt like. Asking changes nothing. */
    static List<Long> asked(RowingEight x) {
        List<Long> all = new ArrayList<>();
        int[] counts = {0, 1, 2, 4, 5, 6, 7};
        for (int what : counts) add(all, x.count(what));
        for (int minute = 0; minute < 24; minute++) {
            for (int what = 0; what < 2; what++) add(all, x.call(minute, what));
            for (int what = 0; what < 5; what++) add(all, x.at(minute, what));
            for (int what = 0; what < 2; what++) add(all, x.steer(minute, what), x.stroke(minute, what));
            for (int seat = 0; seat < 8; seat++) add(all, x.pulls(minute, seat));
            for (int what = 0; what < 2; what++) add(all, x.chance(7, minute, what));
        }
        for (int seat = 0; seat < 8; seat++) {
            for (int what = 0; what < 2; what++) add(all, x.rower(seat, what), x.done(seat, what), x.was(seat, what));
            add(all, x.ask(seat));
        }
        for (int what = 0; what < 2; what++) add(all, x.grounded(what), x.stray(what), x.years(7, 18, what));
        for (int what = 0; what < 3; what++) add(all, x.swap(what), x.spare(what - 1));
        add(all, x.there(), x.best(), x.idle(), x.never());
        return all;
    }

    /**
     * All of it: the findings, the texts byte by byte, the events and what was seen one by one, the sheets.
     * It takes the object apart, so nothing else is to be asked of it behind this.
     */
    static List<Long> whole(RowingEight x) {
        List<Long> all = asked(x);
        add(all, x.count(3), x.count(8), x.digest());
        for (int s = 0; s < 4; s++) sheet(all, x, s);
        for (int text = 0; text < 3; text++) {
            for (int left = x.count(3); left >= 0; left--) add(all, x.fault(text), x.undo(text));
        }
        for (int i = 0; i <= 8; i++) {
            for (int minute = 0; minute < 24; minute++) add(all, x.at(minute, 0), x.at(minute, 1));
            add(all, x.never(), x.back());
        }
        add(all, x.forget());
        return all;
    }

    private static void sheet(List<Long> all, RowingEight x, int s) {
        for (int form = 0; form < 3; form++) {
            for (int i = 0; i < 60; i++) add(all, x.get(s, form, i), x.count(8));
        }
        add(all, x.lose(s));
    }

    private static void add(List<Long> all, long... answers) {
        for (long answer : answers) all.add(answer);
    }
}
