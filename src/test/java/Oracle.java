import java.util.ArrayDeque;
import java.util.ArrayList;
import java.util.Arrays;
import java.util.Deque;
import java.util.List;

/**
 * The document told a second time, by the plainest means: all rows, all subsets, all ways one by one, whole copies of
 * everything for undoing. It is slow, and shares no code or idea with the class it checks.
 */
final class Oracle {
    static final int NONE = -1;
    static final int HIDDEN = -1000000;

    static final class Vow {
        int whose;
        int kind;
        int a;
        int b;
        int n;
        int term;

        Vow(int whose, int kind, int a, int b, int n, int term) {
            this.whose = whose;
            this.kind = kind;
            this.a = a;
            this.b = b;
            this.n = n;
            this.term = term;
        }

        Vow copy() {
            return new Vow(whose, kind, a, b, n, term);
        }

        boolean plain() {
            return kind <= 5;
        }

        boolean inForce() {
            return term > 0;
        }
    }

    static final class Person {
        int want = 8;
        int slips;
        List<Integer> row = new ArrayList<>();

        Person copy() {
            Person p = new Person();
            p.want = want;
            p.slips = slips;
            p.row = new ArrayList<>(row);
            return p;
        }
    }

    /** What images and acts keep. */
    static final class World {
        List<Person> persons = new ArrayList<>();
        List<Vow> vows = new ArrayList<>();
        List<int[]> log = new ArrayList<>();
        int day;

        World copy() {
            World w = new World();
            for (Person p : persons) {
                w.persons.add(p.copy());
            }
            for (Vow v : vows) {
                w.vows.add(v.copy());
            }
            for (int[] l : log) {
                w.log.add(l.clone());
            }
            w.day = day;
            return w;
        }
    }

    World world = new World();
    World image = null;
    Deque<World> acts = new ArrayDeque<>();
    int[] joys = new int[8];
    int[] harms = new int[8];
    List<int[]> eyes = new ArrayList<>();
    List<TasteTree> tastes = new ArrayList<>();
    int holding = NONE;
    List<List<Integer>> rows = new ArrayList<>();
    List<int[]> seen = new ArrayList<>();
    int tempted;

    void settle(World w, int[] j, int[] h, List<int[]> e) {
        world = w;
        image = null;
        acts.clear();
        joys = j;
        harms = h;
        eyes = e;
        seen.clear();
    }

    // ---- vows

    static int brokenAt(Vow v, List<Integer> row) {
        int size = row.size();
        int[] places = new int[13];
        int many = 0;
        for (int i = 0; i < size; i++) {
            if (row.get(i) == v.a) {
                places[many++] = i;
            }
        }
        switch (v.kind) {
            case 0:
                return many > 0 ? places[0] : NONE;
            case 1:
                return many >= v.n ? NONE : size - 1;
            case 2: {
                int firstB = row.indexOf(v.b);
                if (many == 0 || firstB >= 0 && firstB <= places[0]) {
                    return NONE;
                }
                return places[0];
            }
            case 3:
                for (int k = 0; k < many; k++) {
                    if (places[k] == size - 1) {
                        return size - 1;
                    }
                    if (row.get(places[k] + 1) != v.b) {
                        return places[k] + 1;
                    }
                }
                return NONE;
            case 4:
                return many > v.n ? places[v.n] : NONE;
            case 5:
                for (int k = 0; k < many; k++) {
                    if (places[k] > 0 && row.get(places[k] - 1) == v.b) {
                        return places[k];
                    }
                }
                return NONE;
            default:
                throw new IllegalStateException();
        }
    }

    static boolean keeps(Vow v, List<Integer> row) {
        return brokenAt(v, row) == NONE;
    }

    boolean spans(int person, int place) {
        for (int[] e : eyes) {
            if (e[1] == person && e[2] <= place && place <= e[3]) {
                return true;
            }
        }
        return false;
    }

    /** 0 kept, 1 broken, 2 struck, NONE not in force. */
    int[] fates(World w, List<List<Integer>> lived) {
        int many = w.vows.size();
        int[] fates = new int[many];
        List<Integer> open = new ArrayList<>();
        for (int v = 0; v < many; v++) {
            Vow vow = w.vows.get(v);
            if (!vow.inForce()) {
                fates[v] = NONE;
            } else if (vow.plain()) {
                fates[v] = keeps(vow, lived.get(vow.whose)) ? 0 : 1;
            } else {
                open.add(v);
            }
        }
        int[] keptWays = new int[many];
        int ways = 0;
        for (int way = 0; way < 1 << open.size(); way++) {
            boolean[] kept = new boolean[many];
            for (int v = 0; v < many; v++) {
                kept[v] = open.contains(v) ? (way >> open.indexOf(v) & 1) == 1 : fates[v] != 1;
            }
            boolean holds = true;
            for (int v : open) {
                Vow vow = w.vows.get(v);
                holds &= kept[v] == (vow.kind == 6 ? kept[vow.a] : !kept[vow.a]);
            }
            if (holds) {
                ways++;
                for (int v : open) {
                    keptWays[v] += kept[v] ? 1 : 0;
                }
            }
        }
        for (int v : open) {
            fates[v] = ways == 0 ? 2 : keptWays[v] == ways ? 0 : keptWays[v] == 0 ? 1 : 2;
        }
        return fates;
    }

    void live(World w, List<List<Integer>> lived) {
        int[] fates = fates(w, lived);
        int[] entry = new int[4];
        for (int v = 0; v < fates.length; v++) {
            Vow vow = w.vows.get(v);
            if (fates[v] == 0) {
                entry[0]++;
                vow.term--;
            } else if (fates[v] == 2) {
                entry[3]++;
                vow.term = 0;
            } else if (fates[v] == 1) {
                entry[1]++;
                if (!vow.plain() || spans(vow.whose, brokenAt(vow, lived.get(vow.whose)))) {
                    entry[2]++;
                    Person p = w.persons.get(vow.whose);
                    if (p.slips > 0) {
                        p.slips--;
                    } else {
                        vow.term = Math.min(999, vow.term * 2);
                    }
                }
            }
        }
        w.log.add(0, entry);
        if (w.log.size() > 60) {
            w.log.remove(60);
        }
        w.day++;
    }

    static List<List<Integer>> rowsOf(World w) {
        List<List<Integer>> all = new ArrayList<>();
        for (Person p : w.persons) {
            all.add(new ArrayList<>(p.row));
        }
        return all;
    }

    void act() {
        acts.push(world.copy());
        if (acts.size() > 40) {
            acts.removeLast();
        }
    }

    boolean isPerson(int p) {
        return p >= 0 && p < world.persons.size();
    }

    boolean isRow(int r) {
        return r >= 0 && r < rows.size();
    }

    boolean isVow(int v) {
        return v >= 0 && v < world.vows.size();
    }

    // ---- the calls

    int vow(int v, int what) {
        if (!isVow(v) || what < 0 || what > 5) {
            return NONE;
        }
        Vow w = world.vows.get(v);
        return new int[] {w.whose, w.kind, w.a, w.b, w.n, w.term}[what];
    }

    /** HIDDEN where it throws. */
    int person(int p, int what) {
        if (!isPerson(p) || what < 0 || what > 2 + world.persons.get(p).row.size()) {
            return HIDDEN;
        }
        Person q = world.persons.get(p);
        return what == 0 ? q.want == 8 ? NONE : q.want : what == 1 ? q.slips : what == 2 ? q.row.size()
            : q.row.get(what - 3);
    }

    int broken(int row, int vow) {
        if (!isRow(row) || !isVow(vow) || !world.vows.get(vow).plain()) {
            return HIDDEN;
        }
        return brokenAt(world.vows.get(vow), rows.get(row));
    }

    int fares(int vow) {
        return isVow(vow) ? fates(world, rowsOf(world))[vow] : NONE;
    }

    int lives(int p, int r) {
        if (!isPerson(p) || !isRow(r)) {
            return NONE;
        }
        act();
        world.persons.get(p).row = new ArrayList<>(rows.get(r));
        return acts.size();
    }

    int change(int p, int place, int deed) {
        if (!isPerson(p) || place < 0 || place >= world.persons.get(p).row.size() || deed < 0 || deed > 7
            || world.persons.get(p).row.get(place) == deed) {
            return NONE;
        }
        act();
        world.persons.get(p).row.set(place, deed);
        return acts.size();
    }

    int swear(int p, int what, int term) {
        if (!isPerson(p) || what < 0 || what > 5999 || term < 1 || term > 99 || world.vows.size() >= 12) {
            return NONE;
        }
        String digits = String.format("%04d", what);
        int a = digits.charAt(1) - '0';
        int b = digits.charAt(2) - '0';
        if (a > 7 || b > 7) {
            return NONE;
        }
        act();
        world.vows.add(new Vow(p, digits.charAt(0) - '0', a, b, digits.charAt(3) - '0', term));
        return world.vows.size() - 1;
    }

    int pardon(int v) {
        if (!isVow(v) || !world.vows.get(v).inForce()) {
            return 0;
        }
        act();
        world.vows.get(v).term = 0;
        return 1;
    }

    int inForce() {
        int many = 0;
        for (Vow v : world.vows) {
            many += v.inForce() ? 1 : 0;
        }
        return many;
    }

    int amnesty() {
        if (world.persons.isEmpty()) {
            return NONE;
        }
        act();
        for (Vow v : world.vows) {
            v.term = v.term / 2 + v.term % 2;
        }
        return inForce();
    }

    int days(int n) {
        if (world.persons.isEmpty() || n < 1 || n > 60) {
            return NONE;
        }
        for (int i = 0; i < n; i++) {
            act();
            live(world, rowsOf(world));
        }
        return world.day;
    }

    int decades(int n, long seed) {
        if (world.persons.isEmpty() || n < 1 || n > 60) {
            return NONE;
        }
        long x = seed;
        for (int i = 0; i < n; i++) {
            act();
            List<List<Integer>> lived = rowsOf(world);
            for (int p = 0; p < lived.size(); p++) {
                int want = world.persons.get(p).want;
                if (want == 8) {
                    continue;
                }
                x = x * 6364136223846793005L + 1442695040888963407L;
                if (Long.remainderUnsigned(x >>> 33, 100) < tempted) {
                    x = x * 6364136223846793005L + 1442695040888963407L;
                    lived.get(p).set((int) Long.remainderUnsigned(x >>> 33, lived.get(p).size()), want);
                }
            }
            live(world, lived);
        }
        return world.day;
    }

    int undo() {
        if (acts.isEmpty()) {
            return NONE;
        }
        world = acts.pop();
        return acts.size();
    }

    int log(int i, int what) {
        return i < 0 || i >= world.log.size() || what < 0 || what > 3 ? NONE : world.log.get(i)[what];
    }

    static List<List<Integer>> allRows(int l) {
        List<List<Integer>> all = new ArrayList<>();
        int many = (int) Math.pow(8, l);
        for (int k = 0; k < many; k++) {
            Integer[] row = new Integer[l];
            int rest = k;
            for (int i = l - 1; i >= 0; i--) {
                row[i] = rest % 8;
                rest /= 8;
            }
            all.add(Arrays.asList(row));
        }
        return all;
    }

    static int asNumber(List<Integer> row) {
        StringBuilder b = new StringBuilder();
        for (int deed : row) {
            b.append(deed);
        }
        return Integer.parseInt(b.toString());
    }

    List<Vow> vowsOf(int p) {
        List<Vow> mine = new ArrayList<>();
        for (Vow v : world.vows) {
            if (v.whose == p && v.inForce() && v.plain()) {
                mine.add(v);
            }
        }
        return mine;
    }

    static boolean keepsAll(List<Vow> vows, List<Integer> row) {
        for (Vow v : vows) {
            if (!keeps(v, row)) {
                return false;
            }
        }
        return true;
    }

    List<List<Integer>> kept(List<Vow> vows, int l) {
        List<List<Integer>> some = new ArrayList<>();
        for (List<Integer> row : allRows(l)) {
            if (keepsAll(vows, row)) {
                some.add(row);
            }
        }
        return some;
    }

    static int pick(List<Integer> numbers, int i) {
        return i == NONE ? numbers.size() : i >= 0 && i < numbers.size() ? numbers.get(i) : NONE;
    }

    int harmOf(List<Integer> row) {
        int sum = 0;
        for (int deed : row) {
            sum += harms[deed];
        }
        return sum;
    }

    int loopholes(int p, int l, int h, int i) {
        if (!isPerson(p) || l < 1 || l > 5 || h < 0 || h > 99 || i < NONE) {
            return NONE;
        }
        List<Integer> numbers = new ArrayList<>();
        for (List<Integer> row : kept(vowsOf(p), l)) {
            if (harmOf(row) >= h) {
                numbers.add(asNumber(row));
            }
        }
        return pick(numbers, i);
    }

    int strike(int p, int l) {
        if (!isPerson(p) || l < 1 || l > 5) {
            return NONE;
        }
        int mine = 0;
        for (int v = 0; v < world.vows.size(); v++) {
            mine |= vowsOf(p).contains(world.vows.get(v)) ? 1 << v : 0;
        }
        for (int fewest = 0; fewest <= 12; fewest++) {
            for (int set = 0; set < 4096; set++) {
                if (Integer.bitCount(set) != fewest || (set & ~mine) != 0) {
                    continue;
                }
                List<Vow> rest = new ArrayList<>();
                for (int v = 0; v < world.vows.size(); v++) {
                    if ((mine >> v & 1) == 1 && (set >> v & 1) == 0) {
                        rest.add(world.vows.get(v));
                    }
                }
                for (List<Integer> row : allRows(l)) {
                    if (keepsAll(rest, row)) {
                        return set;
                    }
                }
            }
        }
        throw new IllegalStateException();
    }

    int together(int p, int q, int l) {
        if (!isPerson(p) || !isPerson(q) || l < 1 || l > 5) {
            return NONE;
        }
        List<Vow> both = new ArrayList<>(vowsOf(p));
        both.addAll(vowsOf(q));
        return kept(both, l).size();
    }

    int joyOf(int p, List<Integer> row) {
        long sum = 0;
        for (int i = 0; i < row.size(); i++) {
            int deed = row.get(i);
            int ahead = 0;
            for (int k = 0; k < i; k++) {
                ahead += row.get(k) == deed ? 1 : 0;
            }
            sum += holding == NONE ? joys[deed]
                : tastes.get(holding).worth(joys[deed], harms[deed], i, ahead, deed, p);
        }
        return (int) Math.max(-9999, Math.min(9999, sum));
    }

    int joy(int p, int r) {
        return isPerson(p) && isRow(r) ? joyOf(p, rows.get(r)) : HIDDEN;
    }

    List<Integer> bestOf(int p, List<List<Integer>> some) {
        List<Integer> best = null;
        for (List<Integer> row : some) {
            if (best == null || joyOf(p, row) > joyOf(p, best)) {
                best = row;
            }
        }
        return best;
    }

    int best(int p, int l, int what) {
        if (!isPerson(p) || l < 1 || l > 5 || what < 0 || what > 1) {
            return HIDDEN;
        }
        List<Integer> row = bestOf(p, kept(vowsOf(p), l));
        return row == null ? HIDDEN : what == 0 ? asNumber(row) : joyOf(p, row);
    }

    int cost(int p, int l) {
        int under = best(p, l, 1);
        return under == HIDDEN ? HIDDEN : joyOf(p, bestOf(p, allRows(l))) - under;
    }

    int sentence(int p, int deed, int l, int what) {
        if (!isPerson(p) || deed < 0 || deed > 7 || l < 1 || l > 3 || what < 0 || what > 1) {
            return HIDDEN;
        }
        List<List<Integer>> all = allRows(l);
        int[] worth = new int[all.size()];
        for (int r = 0; r < worth.length; r++) {
            worth[r] = joyOf(p, all.get(r));
        }
        int chosen = HIDDEN;
        int joy = HIDDEN;
        for (int number = 0; number < 6000; number++) {
            Vow v = new Vow(p, number / 1000, number / 100 % 10, number / 10 % 10, number % 10, 1);
            if (v.a > 7 || v.b > 7 || v.n > 3) {
                continue;
            }
            int best = NONE;
            for (int r = 0; r < worth.length; r++) {
                if (keeps(v, all.get(r)) && (best == NONE || worth[r] > worth[best])) {
                    best = r;
                }
            }
            if (best != NONE && !all.get(best).contains(deed) && worth[best] > joy) {
                chosen = number;
                joy = worth[best];
            }
        }
        return what == 0 ? chosen : joy;
    }

    int harm(int r) {
        return world.persons.isEmpty() || !isRow(r) ? NONE : harmOf(rows.get(r));
    }

    int safe(int p) {
        if (!isPerson(p)) {
            return NONE;
        }
        int bits = 0;
        for (int i = 0; i < world.persons.get(p).row.size(); i++) {
            bits |= spans(p, i) ? 0 : 1 << i;
        }
        return bits;
    }

    int cover(int p) {
        if (!isPerson(p)) {
            return NONE;
        }
        for (int fewest = 0; fewest <= 8; fewest++) {
            for (int set = 0; set < 1 << eyes.size(); set++) {
                if (Integer.bitCount(set) == fewest && covers(p, set)) {
                    return set;
                }
            }
        }
        throw new IllegalStateException();
    }

    private boolean covers(int p, int set) {
        boolean[] places = new boolean[12];
        for (int e = 0; e < eyes.size(); e++) {
            if ((set >> e & 1) == 1) {
                if (eyes.get(e)[1] != p) {
                    return false;
                }
                Arrays.fill(places, eyes.get(e)[2], eyes.get(e)[3] + 1, true);
            }
        }
        for (int i = 0; i < 12; i++) {
            if (spans(p, i) && !places[i]) {
                return false;
            }
        }
        return true;
    }

    int bold(int p, int c, int what) {
        if (!isPerson(p) || world.persons.get(p).want == 8 || c < 0 || c > 99 || what < 0 || what > 1) {
            return HIDDEN;
        }
        int place = NONE;
        int most = 0;
        for (int i = 0; i < world.persons.get(p).row.size(); i++) {
            List<Integer> row = new ArrayList<>(world.persons.get(p).row);
            row.set(i, world.persons.get(p).want);
            int much = joyOf(p, row) - (spans(p, i) ? c : 0);
            if (place == NONE || much > most) {
                place = i;
                most = much;
            }
        }
        return what == 0 ? place : most;
    }

    int fails(int p, int what) {
        if (!isPerson(p) || what < 0 || what > 1) {
            return NONE;
        }
        for (int place = 0; place < 12; place++) {
            for (int v = 0; v < world.vows.size(); v++) {
                if (vowsOf(p).contains(world.vows.get(v))
                    && brokenAt(world.vows.get(v), world.persons.get(p).row) == place) {
                    return what == 0 ? v : place;
                }
            }
        }
        return NONE;
    }

    int left(int p) {
        if (!isPerson(p)) {
            return NONE;
        }
        int sum = 0;
        for (Vow v : world.vows) {
            sum += v.whose == p ? v.term : 0;
        }
        return sum;
    }

    int length(int p) {
        if (!isPerson(p)) {
            return NONE;
        }
        World w = world.copy();
        for (int day = 0; day <= 99; day++) {
            boolean free = true;
            for (Vow v : w.vows) {
                free &= v.whose != p || !v.inForce();
            }
            if (free) {
                return day;
            }
            live(w, rowsOf(w));
        }
        return NONE;
    }

    int see(int p, int r) {
        if (!isPerson(p) || !isRow(r) || seen.size() >= 8) {
            return NONE;
        }
        seen.add(new int[] {p, r});
        return seen.size();
    }

    List<Vow> promises(int p) {
        List<Vow> all = new ArrayList<>();
        for (int number = 0; number < 6000; number++) {
            Vow v = new Vow(p, number / 1000, number / 100 % 10, number / 10 % 10, number % 10, 1);
            boolean pair = v.kind == 2 || v.kind == 3 || v.kind == 5;
            boolean such = v.a <= 7 && v.b <= 7 && v.n <= 3 && (v.kind != 0 || v.b == 0 && v.n == 0)
                && (v.kind != 1 && v.kind != 4 || v.b == 0) && (!pair || v.n == 0 && v.b != v.a);
            for (int[] s : seen) {
                such = such && (s[0] != p || keeps(v, rows.get(s[1])));
            }
            if (such) {
                all.add(v);
            }
        }
        return all;
    }

    int promised(int p, int i) {
        if (!isPerson(p)) {
            return NONE;
        }
        List<Integer> numbers = new ArrayList<>();
        for (Vow v : promises(p)) {
            numbers.add(1000 * v.kind + 100 * v.a + 10 * v.b + v.n);
        }
        return pick(numbers, i);
    }

    int tells(int p, int r) {
        if (!isPerson(p) || !isRow(r)) {
            return NONE;
        }
        int many = 0;
        for (Vow v : promises(p)) {
            many += keeps(v, rows.get(r)) ? 0 : 1;
        }
        return many;
    }

    int tempting(int p) {
        if (!isPerson(p) || rows.isEmpty()) {
            return NONE;
        }
        int nearest = 0;
        int least = Integer.MAX_VALUE;
        for (int r = 0; r < rows.size(); r++) {
            int breaks = tells(p, r);
            int keeps = promises(p).size() - breaks;
            if (Math.abs(keeps - breaks) < least) {
                least = Math.abs(keeps - breaks);
                nearest = r;
            }
        }
        return nearest;
    }

    int huts(int i) {
        if (world.persons.isEmpty()) {
            return NONE;
        }
        List<Integer> pairs = new ArrayList<>();
        for (int pair = 0; pair < 100; pair++) {
            int p = pair / 10;
            int q = pair % 10;
            if (p < q && isPerson(p) && isPerson(q) && (against(p, q) || against(q, p))) {
                pairs.add(pair);
            }
        }
        return pick(pairs, i);
    }

    private boolean against(int p, int q) {
        for (Vow v : vowsOf(p)) {
            for (Vow w : vowsOf(q)) {
                if (v.kind == 0 && w.kind == 1 && w.n > 0 && v.a == w.a) {
                    return true;
                }
            }
        }
        return false;
    }

    int easy() {
        if (world.persons.isEmpty()) {
            return NONE;
        }
        int bits = 0;
        for (int p = 0; p < world.persons.size(); p++) {
            bits |= keepsAll(vowsOf(p), world.persons.get(p).row) ? 1 << p : 0;
        }
        return bits;
    }

    int image() {
        if (world.persons.isEmpty()) {
            return NONE;
        }
        image = world.copy();
        return world.day;
    }

    int back() {
        if (image == null) {
            return NONE;
        }
        world = image.copy();
        acts.clear();
        return world.day;
    }

    int count(int what) {
        switch (what) {
            case 0: return world.persons.size();
            case 1: return world.vows.size();
            case 2: return eyes.size();
            case 3: return tastes.size();
            case 4: return rows.size();
            case 5: return 0;
            case 6: return holding;
            case 7: return world.day;
            case 8: return tempted;
            case 9: return seen.size();
            case 10: return world.log.size();
            case 11: return acts.size();
            case 12: return inForce();
            default: return HIDDEN;
        }
    }
}
