import java.util.Arrays;
import java.util.NoSuchElementException;

/** All that can be asked of an object, and what its acts and its image bring back, in fewer than 512 calls. */
final class Trace {
    private static final int THROWN = Integer.MIN_VALUE;
    private final SwornDays x;
    private int[] answers = new int[600];
    private int total = 0;

    private Trace(SwornDays x) {
        this.x = x;
    }

    /** Ends with the object changed: ask nothing of it behind this. */
    static int[] of(SwornDays x) {
        Trace t = new Trace(x);
        t.faults();
        t.counts();
        t.persons();
        t.told();
        t.rows();
        t.log();
        t.past();
        return Arrays.copyOf(t.answers, t.total);
    }

    private void put(int answer) {
        answers[total] = answer;
        total++;
    }

    private void faults() {
        for (int sort = 0; sort <= 2; sort++) {
            put(x.fault(sort));
        }
    }

    private void counts() {
        for (int what = 0; what <= 12; what++) {
            put(x.count(what));
        }
    }

    private int person(int person, int what) {
        try {
            return x.person(person, what);
        } catch (NoSuchElementException e) {
            return THROWN;
        }
    }

    private void persons() {
        for (int p = 0; p < x.count(0); p++) {
            int size = person(p, 2);
            for (int what = 0; what < 3 + size; what++) {
                put(person(p, what));
            }
        }
    }

    private void told() {
        for (int d = 0; d < 8; d++) {
            put(x.deed(d, 0));
            put(x.deed(d, 1));
        }
        int vows = x.count(1);
        for (int v = 0; v < vows; v++) {
            for (int what = 0; what < 6; what++) {
                put(x.vow(v, what));
            }
        }
        int eyes = x.count(2);
        for (int e = 0; e < eyes; e++) {
            for (int what = 0; what < 4; what++) {
                put(x.eye(e, what));
            }
        }
    }

    private void rows() {
        for (int row = 0; row < x.count(4); row++) {
            int size = x.row(row, -1);
            for (int i = -1; i < size; i++) {
                put(x.row(row, i));
            }
        }
        put(x.joy(0, 0));
        put(x.promised(0, -1));
        put(x.promised(1, -1));
    }

    private void log() {
        int days = x.count(10);
        int[] looked = {0, 1, days - 2, days - 1, days};
        for (int i : looked) {
            for (int what = 0; what < 4; what++) {
                put(x.log(i, what));
            }
        }
    }

    private void past() {
        for (int left = x.undo(); left != SwornDays.NONE; left = x.undo()) {
            put(left);
            put(x.count(12));
        }
        put(x.count(7));
        put(x.back());
        counts();
    }
}
