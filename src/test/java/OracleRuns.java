import java.util.ArrayList;
import java.util.List;
import java.util.NoSuchElementException;
import java.util.Random;

/** Long runs of drawn calls, each answered by the class and by the oracle. The draws are the same each time. */
public final class OracleRuns {
    private final Random random;
    private final SwornDays x = new SwornDays();
    private final Oracle o = new Oracle();
    private final StringBuilder story = new StringBuilder();
    private final int longest;

    private OracleRuns(long seed, int longest) {
        random = new Random(seed);
        this.longest = longest;
        story.append("seed ").append(seed).append(": ");
    }

    private int to(int bound) {
        return random.nextInt(bound);
    }

    private String item(char letter, int value) {
        String blank = to(10) == 0 ? " " : "";
        return blank + letter + blank + (value < 10 && to(8) == 0 ? "0" : "") + value + blank;
    }

    private void tellCountry() {
        Oracle.World w = new Oracle.World();
        int[] joys = {1, 1, 1, 1, 1, 1, 1, 1};
        int[] harms = new int[8];
        List<int[]> eyes = new ArrayList<>();
        int persons = 1 + to(4);
        List<String> clauses = new ArrayList<>();
        for (int p = 0; p < persons; p++) {
            Oracle.Person q = new Oracle.Person();
            StringBuilder b = new StringBuilder("p");
            if (to(2) == 0) {
                q.want = to(9);
                b.append(item('w', q.want));
            }
            if (to(2) == 0) {
                q.slips = to(4);
                b.append(item('s', q.slips));
            }
            b.append(':');
            for (int i = 1 + to(to(3) == 0 ? 12 : 5); i > 0; i--) {
                int deed = to(to(2) == 0 ? 3 : 8);
                q.row.add(deed);
                b.append((char) ('a' + deed));
            }
            w.persons.add(q);
            clauses.add(b.toString());
        }
        for (int k = to(4); k > 0; k--) {
            int a = to(8);
            joys[a] = to(10);
            harms[a] = to(10);
            clauses.add("d" + item('h', harms[a]) + item('a', a) + item('j', joys[a]));
        }
        int vows = to(8);
        for (int k = 0; k < vows; k++) {
            Oracle.Vow v = new Oracle.Vow(to(persons), to(8), to(3), to(3), to(3), 1 + to(9));
            if (!v.plain()) {
                v.a = to(vows);
            }
            w.vows.add(v);
            clauses.add("v" + item('k', v.kind) + item('p', v.whose) + item('a', v.a) + item('b', v.b)
                + item('n', v.n) + item('t', v.term));
        }
        for (int k = persons > 1 ? to(6) : 0; k > 0; k--) {
            int on = to(persons);
            int whose = (on + 1 + to(persons - 1)) % persons;
            int from = to(7);
            int[] e = {whose, on, from, from + to(12 - from)};
            eyes.add(e);
            clauses.add("e" + item('p', e[0]) + item('o', e[1]) + item('f', e[2]) + item('t', e[3]));
        }
        StringBuilder text = new StringBuilder();
        for (String clause : clauses) {
            text.append(text.length() == 0 ? "" : ";").append(clause);
        }
        if (text.length() > 240) {
            return;
        }
        story.append("country ").append(text).append('\n');
        due("text(0)", Check.tell(x, 0, text.toString()), persons);
        o.settle(w, joys, harms, eyes);
    }

    private void tellTaste() {
        TasteTree t = TasteTree.draw(random);
        String text = t.text(random);
        if (text.length() > 240) {
            return;
        }
        story.append("taste ").append(text).append('\n');
        boolean room = o.tastes.size() < 4;
        due("text(1)", Check.tell(x, 1, text), room ? o.tastes.size() : Oracle.NONE);
        if (room) {
            o.tastes.add(t);
        }
        x.end(0);
    }

    private void tellRow() {
        List<Integer> row = new ArrayList<>();
        StringBuilder b = new StringBuilder();
        for (int i = 1 + to(12); i > 0; i--) {
            int deed = to(to(2) == 0 ? 3 : 8);
            row.add(deed);
            b.append((char) ('a' + deed));
        }
        boolean room = o.rows.size() < 6;
        story.append("row ").append(b).append('\n');
        due("text(2)", Check.tell(x, 2, b.toString()), room ? o.rows.size() : Oracle.NONE);
        if (room) {
            o.rows.add(row);
        }
        x.end(0);
    }

    private boolean failed = false;

    private void due(String call, int got, int want) {
        Check.due(call, got, want);
        if (got != want && !failed) {
            failed = true;
            System.out.println(story);
        }
    }

    private int personOr(int p, int what) {
        try {
            return x.person(p, what);
        } catch (NoSuchElementException e) {
            return Oracle.HIDDEN;
        }
    }

    /** Mostly within 0 .. most, now and then just beside it. */
    private int near(int most) {
        return to(12) == 0 ? to(2) == 0 ? -1 - to(2) : most + 1 + to(2) : to(most + 1);
    }

    private int p() {
        return near(Math.max(0, o.world.persons.size() - 1));
    }

    private int r() {
        return near(Math.max(0, o.rows.size() - 1));
    }

    private int v() {
        return near(Math.max(0, o.world.vows.size() - 1));
    }

    private int l() {
        return to(15) == 0 ? to(2) == 0 ? 0 : 6 : 1 + to(longest);
    }

    private void tell() {
        switch (to(3)) {
            case 0:
                if (to(4) == 0) {
                    tellCountry();
                }
                break;
            case 1: tellTaste(); break;
            default: tellRow();
        }
    }

    private void act() {
        int a = p();
        int b = r();
        int c = near(8);
        int d = near(7);
        switch (to(11)) {
            case 0: call("lives", a, b); due("lives", x.lives(a, b), o.lives(a, b)); break;
            case 1: call("change", a, c, d); due("change", x.change(a, c, d), o.change(a, c, d)); break;
            case 2: {
                int what = to(12) == 0 ? to(20000) - 5000 : 1000 * to(6) + 100 * to(4) + 10 * to(4) + to(4);
                int term = near(12);
                call("swear", a, what, term);
                due("swear", x.swear(a, what, term), o.swear(a, what, term));
                break;
            }
            case 3: {
                int vow = v();
                call("pardon", vow);
                due("pardon", x.pardon(vow) ? 1 : 0, o.pardon(vow));
                break;
            }
            case 4: call("amnesty"); due("amnesty", x.amnesty(), o.amnesty()); break;
            case 5:
            case 6: {
                int n = to(20) == 0 ? near(60) : 1 + to(4);
                call("days", n);
                due("days", x.days(n), o.days(n));
                break;
            }
            case 7: {
                int n = to(20) == 0 ? near(60) : 1 + to(4);
                long seed = random.nextLong();
                call("decades " + seed, n);
                due("decades", x.decades(n, seed), o.decades(n, seed));
                break;
            }
            case 8:
                for (int k = to(5); k >= 0; k--) {
                    call("undo");
                    due("undo", x.undo(), o.undo());
                }
                break;
            case 9: call("image"); due("image", x.image(), o.image()); break;
            default:
                if (to(3) == 0) {
                    call("back");
                    due("back", x.back(), o.back());
                }
        }
    }

    private void set() {
        int a = near(2);
        switch (to(3)) {
            case 0: {
                boolean such = a >= -1 && a < o.tastes.size();
                call("taste", a);
                due("taste", x.taste(a) ? 1 : 0, such ? 1 : 0);
                o.holding = such ? a : o.holding;
                break;
            }
            case 1: {
                int t = near(99);
                boolean such = t >= 0 && t <= 99 && t != o.tempted;
                call("tempted", t);
                due("tempted", x.tempted(t) ? 1 : 0, such ? 1 : 0);
                o.tempted = such ? t : o.tempted;
                break;
            }
            default: {
                int p = p();
                int r = r();
                call("see", p, r);
                due("see", x.see(p, r), o.see(p, r));
            }
        }
    }

    private void ask() {
        int p = p();
        int r = r();
        int l = l();
        int w = near(1);
        int i = to(3) == 0 ? -1 : near(to(2) == 0 ? 3 : 60);
        call("ask", p, r, l, w, i);
        switch (to(22)) {
            case 0: due("can", x.can(p, l, i), o.loopholes(p, l, 0, i)); break;
            case 1: due("strike", x.strike(p, Math.min(l, 2)), o.strike(p, Math.min(l, 2))); break;
            case 2: {
                int q = p();
                due("together", x.together(p, q, l), o.together(p, q, l));
                break;
            }
            case 3: due("joy", x.joy(p, r), o.joy(p, r)); break;
            case 4: due("best", x.best(p, l, w), o.best(p, l, w)); break;
            case 5: due("cost", x.cost(p, l), o.cost(p, l)); break;
            case 6: {
                int d = near(7);
                int k = to(40) == 0 ? 3 : Math.min(l, 2);
                due("sentence", x.sentence(p, d, k, w), o.sentence(p, d, k, w));
                break;
            }
            case 7: {
                int h = near(20);
                due("loopholes", x.loopholes(p, l, h, i), o.loopholes(p, l, h, i));
                break;
            }
            case 8: due("harm", x.harm(r), o.harm(r)); break;
            case 9: due("safe", x.safe(p), o.safe(p)); break;
            case 10: due("cover", x.cover(p), o.cover(p)); break;
            case 11: {
                int c = near(99);
                due("bold", x.bold(p, c, w), o.bold(p, c, w));
                break;
            }
            case 12: due("fails", x.fails(p, w), o.fails(p, w)); break;
            case 13: due("length", x.length(p), o.length(p)); break;
            case 14: due("promised", x.promised(p, i), o.promised(p, i)); break;
            case 15: due("tells", x.tells(p, r), o.tells(p, r)); break;
            case 16: due("tempting", x.tempting(p), o.tempting(p)); break;
            case 17: due("huts", x.huts(i), o.huts(i)); break;
            case 18: due("easy", x.easy(), o.easy()); break;
            case 19: due("left", x.left(p), o.left(p)); break;
            case 20: {
                int v = v();
                due("broken", x.broken(r, v), o.broken(r, v));
                break;
            }
            default: {
                int v = v();
                due("fares", x.fares(v), o.fares(v));
            }
        }
    }

    private void call(String name, int... arguments) {
        story.append(name).append(java.util.Arrays.toString(arguments)).append('\n');
    }

    private void lookAtAll() {
        for (int what = 0; what <= 13; what++) {
            due("count " + what, x.count(what), o.count(what));
        }
        for (int v = 0; v <= o.world.vows.size(); v++) {
            for (int what = 0; what <= 6; what++) {
                due("vow", x.vow(v, what), o.vow(v, what));
            }
        }
        for (int p = 0; p <= o.world.persons.size(); p++) {
            for (int what = -1; what <= 15; what++) {
                due("person", personOr(p, what), o.person(p, what));
            }
        }
        for (int i = -1; i <= 60; i++) {
            for (int what = 0; what < 4; what++) {
                due("log", x.log(i, what), o.log(i, what));
            }
        }
    }

    private void run() {
        for (int k = 0; k < 150 && !failed; k++) {
            if (k == 5 || k > 5 && to(60) == 0) {
                tellCountry();
            }
            int kind = to(10);
            if (kind == 0) {
                tell();
            } else if (kind < 4) {
                act();
                if (to(4) == 0) {
                    lookAtAll();
                }
            } else if (kind == 4) {
                set();
            } else {
                ask();
            }
        }
        lookAtAll();
    }

    public static void main(String[] args) {
        for (int seed = 0; seed < 400; seed++) {
            new OracleRuns(seed, 2).run();
        }
        for (int seed = 1000; seed < 1030; seed++) {
            new OracleRuns(seed, 4).run();
        }
        Check.end("OracleRuns");
    }
}
