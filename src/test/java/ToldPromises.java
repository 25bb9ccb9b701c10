/** Promises 6 to 14: what is told, which taste holds, what breaks a vow, how vows fare. */
public final class ToldPromises {
    private static void person() {
        SwornDays x = Check.country("pw3s4:abc;pw8:h;p s9 w0:abcdefghabcd");
        Check.due("wants 0", x.person(0, 0), 3);
        Check.due("slips 0", x.person(0, 1), 4);
        Check.due("size 0", x.person(0, 2), 3);
        Check.due("deed 0", x.person(0, 3), 0);
        Check.due("deed 2", x.person(0, 5), 2);
        Check.dueThrow("person(0, 6)", x, 0, 6);
        Check.dueThrow("person(0, -1)", x, 0, -1);
        Check.dueThrow("person(0, max)", x, 0, Integer.MAX_VALUE);
        Check.dueThrow("person(0, min)", x, 0, Integer.MIN_VALUE);
        Check.dueThrow("person(3, 0)", x, 3, 0);
        Check.dueThrow("person(-1, 0)", x, -1, 0);
        Check.due("wants 1", x.person(1, 0), Check.NONE);
        Check.due("slips 1", x.person(1, 1), 0);
        Check.due("wants 2", x.person(2, 0), 0);
        Check.due("slips 2", x.person(2, 1), 9);
        Check.due("last deed", x.person(2, 14), 3);
        Check.dueThrow("person(2, 15)", x, 2, 15);
    }

    private static void deed() {
        SwornDays x = Check.country("dj7;da3j0h9;da0h2;p:a;da5h1");
        Check.due("the latest joy of a", x.deed(0, 0), 1);
        Check.due("the latest harm of a", x.deed(0, 1), 2);
        Check.due("joy of d", x.deed(3, 0), 0);
        Check.due("harm of d", x.deed(3, 1), 9);
        Check.due("joy of one not told", x.deed(7, 0), 1);
        Check.due("harm of one not told", x.deed(7, 1), 0);
        Check.due("harm of f", x.deed(5, 1), 1);
        Check.due("deed(8, 0)", x.deed(8, 0), Check.NONE);
        Check.due("deed(-1, 0)", x.deed(-1, 0), Check.NONE);
        Check.due("deed(0, 2)", x.deed(0, 2), Check.NONE);
        Check.due("deed(0, -1)", x.deed(0, -1), Check.NONE);
        Check.tell(x, 0, "p:a");
        Check.due("of another country", x.deed(3, 1), 0);
    }

    private static void vowAndEye() {
        SwornDays x = Check.country("p:a;p:b;v;v t99 n9 b7 a6 k5 p1;e;ep1o0f3t4");
        int[] without = {0, 0, 0, 1, 1, 7};
        int[] with = {1, 5, 6, 7, 9, 99};
        for (int what = 0; what < 6; what++) {
            Check.due("vow(0, " + what + ")", x.vow(0, what), without[what]);
            Check.due("vow(1, " + what + ")", x.vow(1, what), with[what]);
        }
        Check.due("vow(2, 0)", x.vow(2, 0), Check.NONE);
        Check.due("vow(-1, 0)", x.vow(-1, 0), Check.NONE);
        Check.due("vow(0, 6)", x.vow(0, 6), Check.NONE);
        Check.due("vow(0, -1)", x.vow(0, -1), Check.NONE);
        int[] eye = {0, 1, 0, 11, 1, 0, 3, 4};
        for (int i = 0; i < 8; i++) {
            Check.due("eye(" + i / 4 + ", " + i % 4 + ")", x.eye(i / 4, i % 4), eye[i]);
        }
        Check.due("eye(2, 0)", x.eye(2, 0), Check.NONE);
        Check.due("eye(-1, 0)", x.eye(-1, 0), Check.NONE);
        Check.due("eye(0, 4)", x.eye(0, 4), Check.NONE);
        Check.due("eye(0, -1)", x.eye(0, -1), Check.NONE);
    }

    private static void row() {
        SwornDays x = new SwornDays();
        Check.tell(x, 2, "hg");
        Check.tell(x, 2, "a b c d e f g h a b c d");
        Check.due("row(0, -1)", x.row(0, -1), 2);
        Check.due("row(0, 0)", x.row(0, 0), 7);
        Check.due("row(0, 1)", x.row(0, 1), 6);
        Check.due("row(0, 2)", x.row(0, 2), Check.NONE);
        Check.due("row(0, -2)", x.row(0, -2), Check.NONE);
        Check.due("row(1, -1)", x.row(1, -1), 12);
        Check.due("row(1, 11)", x.row(1, 11), 3);
        Check.due("row(1, 12)", x.row(1, 12), Check.NONE);
        Check.due("row(2, -1)", x.row(2, -1), Check.NONE);
        Check.due("row(-1, -1)", x.row(-1, -1), Check.NONE);
    }

    private static void tasteAndTempted() {
        SwornDays x = Check.country("da1j5;p:a", "ab");
        Check.due("taste(0) of none", x.taste(0), false);
        Check.due("taste(NONE)", x.taste(-1), true);
        Check.tell(x, 1, "y:3");
        Check.tell(x, 1, "y:4");
        Check.due("none holds at first", x.count(6), Check.NONE);
        Check.due("joy without", x.joy(0, 0), 6);
        Check.due("taste(1)", x.taste(1), true);
        Check.due("taste(1) again", x.taste(1), true);
        Check.due("it holds", x.count(6), 1);
        Check.due("joy with", x.joy(0, 0), 8);
        Check.due("taste(2)", x.taste(2), false);
        Check.due("taste(-2)", x.taste(-2), false);
        Check.due("it holds still", x.count(6), 1);
        Check.due("taste(NONE)", x.taste(-1), true);
        Check.due("joy without", x.joy(0, 0), 6);
        Check.due("no act", x.count(11), 0);
        Check.due("tempted(0)", x.tempted(0), false);
        Check.due("tempted(99)", x.tempted(99), true);
        Check.due("tempted(99) again", x.tempted(99), false);
        Check.due("tempted(100)", x.tempted(100), false);
        Check.due("tempted(-1)", x.tempted(-1), false);
        Check.due("tempted is", x.count(8), 99);
        Check.due("tempted(0)", x.tempted(0), true);
        Check.due("no act", x.count(11), 0);
    }

    /** Where the row breaks the vow that the items tell. */
    private static void brokenDue(String vow, String row, int want) {
        SwornDays x = Check.country("p:a;v" + vow, row);
        Check.due("broken of v" + vow + " by " + row, x.broken(0, 0), want);
        x.pardon(0);
        Check.due("broken of v" + vow + " not in force", x.broken(0, 0), want);
        x.lives(0, 0);
        x.undo();
        x.undo();
        x.lives(0, 0);
        Check.due("fares of v" + vow + " by " + row, x.fares(0), want == Check.NONE ? 0 : 1);
        Check.due("fails of v" + vow + " by " + row, x.fails(0, 1), want);
    }

    private static void broken() {
        int kept = Check.NONE;
        brokenDue("k0a2", "abab", kept);
        brokenDue("k0a2", "abcc", 2);
        brokenDue("k1a0n0", "bbb", kept);
        brokenDue("k1a0n2", "aba", kept);
        brokenDue("k1a0n2", "abb", 2);
        brokenDue("k1a0n9", "aaaaaaaaaaaa", kept);
        brokenDue("k1a0n9", "aaaaaaaabbbb", 11);
        brokenDue("k2a0b1", "ba", kept);
        brokenDue("k2a0b1", "cab", 1);
        brokenDue("k2a0b1", "cca", 2);
        brokenDue("k2a0b1", "ccc", kept);
        brokenDue("k2a0b1", "cbaab", kept);
        brokenDue("k2a0b0", "ca", kept);
        brokenDue("k3a0b1", "abab", kept);
        brokenDue("k3a0b1", "abac", 3);
        brokenDue("k3a0b1", "aab", 1);
        brokenDue("k3a0b1", "ba", 1);
        brokenDue("k3a0b1", "a", 0);
        brokenDue("k3a0b1", "ccb", kept);
        brokenDue("k3a0b0", "baa", 2);
        brokenDue("k3a0b0", "bab", 2);
        brokenDue("k4a0n0", "ba", 1);
        brokenDue("k4a0n2", "abab", kept);
        brokenDue("k4a0n2", "ababaa", 4);
        brokenDue("k5a0b1", "abba", 3);
        brokenDue("k5a0b1", "acab", kept);
        brokenDue("k5a0b0", "abaa", 3);
        SwornDays x = Check.country("p:a;v;vk6a0;vk7a0", "ab");
        Check.due("broken of a vow about a vow", x.broken(0, 1), Check.HIDDEN);
        Check.due("broken of a vow about a vow", x.broken(0, 2), Check.HIDDEN);
        Check.due("broken(1, 0)", x.broken(1, 0), Check.HIDDEN);
        Check.due("broken(-1, 0)", x.broken(-1, 0), Check.HIDDEN);
        Check.due("broken(0, 3)", x.broken(0, 3), Check.HIDDEN);
        Check.due("broken(0, -1)", x.broken(0, -1), Check.HIDDEN);
    }

    private static void faresDue(String vows, int... want) {
        SwornDays x = Check.country("p:a;" + vows);
        for (int v = 0; v < want.length; v++) {
            Check.due("fares(" + v + ") of " + vows, x.fares(v), want[v]);
        }
    }

    private static void fares() {
        faresDue("v", 1, Check.NONE);
        faresDue("va1", 0);
        faresDue("v;vk6a0;vk7a0;vk7a1;vk6a3", 1, 1, 0, 0, 0);
        faresDue("vk6a0", 2);
        faresDue("vk7a0", 2);
        faresDue("vk7a1;vk7a0", 2, 2);
        faresDue("vk6a1;vk7a0", 2, 2);
        faresDue("vk7a1;vk7a2;vk7a0", 2, 2, 2);
        faresDue("vk7a1;vk7a0;vk6a0;va1;vk6a3", 2, 2, 2, 0, 0);
        faresDue("vk7a0;va1;vk6a1;vk7a1", 2, 0, 2, 2);
        SwornDays x = Check.country("p:a;vt1a1;vk6a0;vk7a0;vk7a3");
        Check.due("a paradox strikes all vows about vows", x.fares(1), 2);
        Check.due("pardon(3)", x.pardon(3), true);
        Check.due("without it", x.fares(1), 0);
        Check.due("without it", x.fares(2), 1);
        x.pardon(0);
        Check.due("a vow not in force counts as kept", x.fares(1), 0);
        Check.due("fares(0)", x.fares(0), Check.NONE);
        Check.due("fares(4)", x.fares(4), Check.NONE);
        Check.due("fares(-1)", x.fares(-1), Check.NONE);
        Check.due("no day has gone by", x.count(7), 0);
        SwornDays y = Check.country("p:a;v;vk6a0;vk6a1");
        y.pardon(1);
        Check.due("about one not in force", y.fares(2), 0);
    }

    public static void main(String[] args) {
        person();
        deed();
        vowAndEye();
        row();
        tasteAndTempted();
        broken();
        fares();
        Check.end("ToldPromises");
    }
}
