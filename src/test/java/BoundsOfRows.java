/**
 * The boundary cases of promises 24 to 44 and of part 3 of the terms: rows of l from the shortest to the longest, none
 * and all, ties, the least and the greatest. One check or more for each such sentence.
 */
public final class BoundsOfRows {
    private static final int NONE = SwornDays.NONE;
    private static final int HIDDEN = SwornDays.HIDDEN;
    private static final int[] POWERS = {1, 8, 64, 512, 4096, 32768};
    private static final int[] SEVENS = {0, 7, 77, 777, 7777, 77777};

    private BoundsOfRows() {
    }

    private static String times(int n, String part) {
        StringBuilder b = new StringBuilder();
        for (int i = 0; i < n; i++) {
            b.append(part);
        }
        return b.toString();
    }

    /** A country with a taste that holds. */
    private static SwornDays tasted(String country, String taste, String... rows) {
        SwornDays x = Check.country(country, rows);
        Check.due("taste " + taste, Check.tell(x, 1, taste), 0);
        x.taste(0);
        return x;
    }

    // ---- can, strike, together

    private static void can() {
        SwornDays x = Check.country("p:a;p:b;v;vp1k1a5n5");
        x.pardon(0);
        for (int l = 1; l <= 5; l++) {
            Check.due("all rows of " + l, x.can(0, l, -1), POWERS[l]);
            Check.due("the first of " + l, x.can(0, l, 0), 0);
            Check.due("the second of " + l, x.can(0, l, 1), 1);
            Check.due("the last of " + l, x.can(0, l, POWERS[l] - 1), SEVENS[l]);
            Check.due("none behind the last of " + l, x.can(0, l, POWERS[l]), NONE);
            Check.due("i -2 of " + l, x.can(0, l, -2), NONE);
            Check.due("f five times in " + l, x.can(1, l, -1), l == 5 ? 1 : 0);
            Check.due("f five times in " + l, x.can(1, l, 0), l == 5 ? 55555 : NONE);
            Check.due("no second one", x.can(1, l, 1), NONE);
        }
        Check.due("the ninth of 2 (a carry)", x.can(0, 2, 8), 10);
        Check.due("l 0", x.can(0, 0, -1), NONE);
        Check.due("l 6", x.can(0, 6, -1), NONE);
        // All eight deeds forbidden: no row at all.
        SwornDays y = Check.country("p:a;va0;va1;va2;va3;va4;va5;va6;va7");
        for (int l = 1; l <= 5; l++) {
            Check.due("none of " + l, y.can(0, l, -1), 0);
            Check.due("the first of none", y.can(0, l, 0), NONE);
        }
        y.pardon(3);
        for (int l = 1; l <= 5; l++) {
            Check.due("one of " + l, y.can(0, l, -1), 1);
            Check.due("it", y.can(0, l, 0), SEVENS[l] / 7 * 3);
        }
    }

    /** Each kind by rows of one place and of two: what stands first, what stands last. */
    private static void kinds() {
        int[][] due = {{0, 7, 49}, {1000, 8, 64}, {1001, 1, 15}, {1002, 0, 1}, {1003, 0, 0}, {2010, 7, 50}, {2000, 8, 64},
            {3010, 7, 50}, {3000, 7, 49}, {4000, 7, 49}, {4001, 8, 63}, {4002, 8, 64}, {5010, 8, 63}, {5000, 8, 63}};
        for (int[] d : due) {
            SwornDays x = Check.country("p:a");
            x.swear(0, d[0], 1);
            Check.due("rows of 1 under " + d[0], x.can(0, 1, -1), d[1]);
            Check.due("rows of 2 under " + d[0], x.can(0, 2, -1), d[2]);
        }
        SwornDays x = Check.country("p:a");
        x.swear(0, 5010, 1);
        Check.due("no a behind b", x.can(0, 2, 8), 11);
        x.undo();
        x.swear(0, 3010, 1);
        Check.due("ab, and none else with a", x.can(0, 2, 0), 1);
        Check.due("bb behind it", x.can(0, 2, 1), 11);
        x.undo();
        x.swear(0, 2010, 1);
        Check.due("ba, and none else with a", x.can(0, 2, 0), 10);
    }

    /** Vows out of force, of kinds 6 and 7, and of others do not bind. */
    private static void whoseVows() {
        SwornDays x = Check.country("p:a;p:b;va0t1;vp1a1;vk6a0;vk7a0;vk7a4");
        Check.due("one vow binds", x.can(0, 1, -1), 7);
        Check.due("strike none", x.strike(0, 1), 0);
        x.pardon(0);
        Check.due("none binds", x.can(0, 1, -1), 8);
        Check.due("another one's", x.can(1, 1, -1), 7);
        Check.due("cost", x.cost(0, 1), 0);
        Check.due("loopholes", x.loopholes(0, 1, 0, -1), 8);
    }

    private static void strike() {
        // "none can be enough"
        for (int l = 1; l <= 5; l++) {
            Check.due("no vow", Check.country("p:a").strike(0, l), 0);
        }
        // Each alone is too much: both are struck, the third stays.
        SwornDays x = Check.country("p:a;vk1a0n9;vk1a1n6;vk1a2n5");
        Check.due("l 5", x.strike(0, 5), 3);
        Check.due("l 4", x.strike(0, 4), 7);
        Check.due("l 1", x.strike(0, 1), 7);
        Check.due("l 0", x.strike(0, 0), NONE);
        Check.due("l 6", x.strike(0, 6), NONE);
        // "of several the least": either of two would do.
        Check.due("the first", Check.country("p:a;v;vk1").strike(0, 1), 1);
        Check.due("the first", Check.country("p:a;vk1;v").strike(0, 2), 1);
        // One against two others: one is fewer than two, though its bit is higher.
        Check.due("the fewest", Check.country("p:a;va1;va1;vk1a1").strike(0, 3), 4);
        // Bits by the numbers of the vows, those of others between them.
        Check.due("by numbers", Check.country("p:a;p:b;vp1;v;vp1;vk1;vp1").strike(0, 3), 2);
        SwornDays y = Check.country("p:a");
        for (int v = 0; v < 12; v++) {
            y.swear(0, 1009 + 100 * (v % 8), 5);
        }
        Check.due("all twelve", y.strike(0, 5), 4095);
        y.pardon(11);
        y.pardon(0);
        Check.due("all ten in force", y.strike(0, 5), 4095 - 2048 - 1);
    }

    private static void together() {
        SwornDays x = Check.country("p:a;p:b;p:c;va0;vp1k1a0;vp2a1");
        for (int l = 1; l <= 5; l++) {
            Check.due("none of " + l, x.together(0, 1, l), 0);
            int six = 1;
            for (int i = 0; i < l; i++) {
                six *= 6;
            }
            Check.due("both of " + l, x.together(0, 2, l), six);
            Check.due("either way round", x.together(2, 0, l), six);
        }
        x.pardon(0);
        x.pardon(1);
        x.pardon(2);
        Check.due("all", x.together(0, 1, 5), 32768);
        Check.due("l 0", x.together(0, 1, 0), NONE);
        Check.due("l 6", x.together(0, 1, 6), NONE);
        Check.due("no such one", x.together(3, 0, 1), NONE);
        Check.due("no such other", x.together(0, 3, 1), NONE);
    }

    // ---- joy, best, cost, sentence

    /** "held within -9,999 .. 9,999" */
    private static void joyHeld() {
        int[][] cases = {{9998, 9998}, {9999, 9999}, {-9998, -9998}, {-9999, -9999}};
        for (int[] c : cases) {
            String taste = c[0] < 0 ? "y:0-" + -c[0] : "y:" + c[0];
            Check.due("joy by " + taste, tasted("p:a", taste, "a").joy(0, 0), c[1]);
        }
        Check.due("9,999 and 1", tasted("p:a", "y:i=0?9999;y:1", "ab").joy(0, 0), 9999);
        Check.due("9,998 and 1", tasted("p:a", "y:i=0?9998;y:1", "ab").joy(0, 0), 9999);
        Check.due("10,000", tasted("p:a", "y:9999+1", "a").joy(0, 0), 9999);
        Check.due("-10,000", tasted("p:a", "y:0-9999-1", "a").joy(0, 0), -9999);
        Check.due("1,000,000 twelve times", tasted("p:a", "y:9999*9999", times(12, "a")).joy(0, 0), 9999);
        Check.due("-1,000,000 twelve times", tasted("p:a", "y:0-9999*9999", times(12, "a")).joy(0, 0), -9999);
        Check.due("up and down", tasted("p:a", "y:i=0?9999*9;y:0-9999*8", "ab").joy(0, 0), 9999);
        Check.due("no taste: 12 times 9", Check.country("p:a;dj9", times(12, "a")).joy(0, 0), 108);
        Check.due("no taste: joy 0", Check.country("p:a;dj0", times(12, "a")).joy(0, 0), 0);
        // r counts up to eleven, i goes up to eleven.
        Check.due("r", tasted("p:a", "y:r=11?1", times(12, "a")).joy(0, 0), 1);
        Check.due("r", tasted("p:a", "y:r>10?1", times(6, "ab")).joy(0, 0), 0);
        Check.due("r", tasted("p:a", "y:r>4?1", times(6, "ab")).joy(0, 0), 2);
        Check.due("j", tasted("p:a;da1j9h7", "y:j", "ab").joy(0, 0), 10);
        Check.due("h", tasted("p:a;da1j9h7", "y:h", "ab").joy(0, 0), 7);
        Check.due("i", tasted("p:a", "y:i", times(12, "a")).joy(0, 0), 66);
        Check.due("x", tasted("p:a", "y:x", "abcdefgh").joy(0, 0), 28);
        SwornDays five = tasted("p:a;p:a;p:a;p:a;p:a", "y:q", "a");
        for (int p = 0; p < 5; p++) {
            Check.due("q", five.joy(p, 0), p);
        }
        // The bounds bind rows of l, too: all of joy 9,999 are as good as one another, the least is the best.
        SwornDays x = tasted("p:a;va0", "y:9999");
        Check.due("the least of the best", x.best(0, 2, 0), 11);
        Check.due("its joy", x.best(0, 2, 1), 9999);
        Check.due("no cost", x.cost(0, 2), 0);
        SwornDays y = tasted("p:a;va0", "y:x=0?9999;y:0-9999");
        Check.due("the greatest cost of all", y.cost(0, 5), 19998);
        Check.due("the joy", y.best(0, 5, 1), -9999);
    }

    private static void best() {
        // "of several the least"
        SwornDays x = Check.country("p:a;p:b;va0;vp1k1a7n5");
        for (int l = 1; l <= 5; l++) {
            Check.due("all are as good", x.best(0, l, 0), SEVENS[l] / 7);
            Check.due("their joy", x.best(0, l, 1), l);
            Check.due("best of one or of none", x.best(1, l, 0), l == 5 ? 77777 : HIDDEN);
            Check.due("its joy", x.best(1, l, 1), l == 5 ? 5 : HIDDEN);
            Check.due("its cost", x.cost(1, l), l == 5 ? 0 : HIDDEN);
        }
        Check.due("l 0", x.best(0, 0, 0), HIDDEN);
        Check.due("l 6", x.best(0, 6, 0), HIDDEN);
        Check.due("what 2", x.best(0, 1, 2), HIDDEN);
        Check.due("what -1", x.best(0, 1, -1), HIDDEN);
        Check.due("cost, l 0", x.cost(0, 0), HIDDEN);
        Check.due("cost, l 6", x.cost(0, 6), HIDDEN);
        // The row 0 is an answer, and so are joys below 0.
        SwornDays y = tasted("p:a", "y:0-x-1");
        Check.due("the row 0", y.best(0, 5, 0), 0);
        Check.due("a joy below 0", y.best(0, 5, 1), -5);
        SwornDays z = tasted("p:a;va0;va1", "y:0-x");
        Check.due("a cost", z.cost(0, 5), 10);
        Check.due("the last row of all", tasted("p:a", "y:x").best(0, 5, 0), 77777);
    }

    private static void sentence() {
        SwornDays x = Check.country("p:a;da2j5;da5j4");
        for (int l = 1; l <= 3; l++) {
            Check.due("never c", x.sentence(0, 2, l, 0), 200);
            Check.due("joy then", x.sentence(0, 2, l, 1), 4 * l);
            // The best row has only c: any vow that leaves it will do, and 0 (never a) is the least.
            for (int d = 0; d < 8; d++) {
                if (d != 2) {
                    Check.due("not in the best row", x.sentence(0, d, l, 0), 0);
                    Check.due("joy then", x.sentence(0, d, l, 1), 5 * l);
                }
            }
        }
        Check.due("l 0", x.sentence(0, 2, 0, 0), HIDDEN);
        Check.due("l 4", x.sentence(0, 2, 4, 0), HIDDEN);
        Check.due("deed 8", x.sentence(0, 8, 1, 0), HIDDEN);
        Check.due("deed -1", x.sentence(0, -1, 1, 0), HIDDEN);
        Check.due("what 2", x.sentence(0, 2, 1, 2), HIDDEN);
        Check.due("what -1", x.sentence(0, 2, 1, -1), HIDDEN);
        // All are as good: of rows without a, the least is of b; of those without b, it is of a.
        SwornDays y = Check.country("p:a");
        Check.due("of a", y.sentence(0, 0, 3, 0), 0);
        Check.due("of b: never a leaves b, never b leaves a", y.sentence(0, 1, 3, 0), 100);
        Check.due("of c", y.sentence(0, 2, 3, 0), 0);
        Check.due("of h", y.sentence(0, 7, 1, 0), 0);
        // Its own vows do not count: alone.
        SwornDays z = Check.country("p:a;da7j9;va7");
        Check.due("of h, sworn already", z.sentence(0, 7, 1, 0), 700);
        Check.due("its joy", z.sentence(0, 7, 1, 1), 1);
        Check.due("a joy below 0", tasted("p:a", "y:0-9999").sentence(0, 0, 3, 1), -9999);
    }

    // ---- harm

    private static void loopholes() {
        SwornDays x = Check.country("p:a;p:b;da7h9;vp1a7");
        Check.due("h 0: all", x.loopholes(0, 5, 0, -1), 32768);
        Check.due("h 45: one", x.loopholes(0, 5, 45, -1), 1);
        Check.due("h 45: it", x.loopholes(0, 5, 45, 0), 77777);
        Check.due("h 45: no second one", x.loopholes(0, 5, 45, 1), NONE);
        Check.due("h 46: none", x.loopholes(0, 5, 46, -1), 0);
        Check.due("h 46: none", x.loopholes(0, 5, 46, 0), NONE);
        Check.due("h 99: none", x.loopholes(0, 5, 99, -1), 0);
        Check.due("h 100", x.loopholes(0, 5, 100, -1), NONE);
        Check.due("h -1", x.loopholes(0, 5, -1, -1), NONE);
        Check.due("h 9, of that or more", x.loopholes(0, 1, 9, -1), 1);
        Check.due("h 10", x.loopholes(0, 1, 10, -1), 0);
        Check.due("h 9 of 2", x.loopholes(0, 2, 9, -1), 15);
        Check.due("the first of them", x.loopholes(0, 2, 9, 0), 7);
        Check.due("the last of them", x.loopholes(0, 2, 9, 14), 77);
        Check.due("none behind", x.loopholes(0, 2, 9, 15), NONE);
        Check.due("i -2", x.loopholes(0, 2, 9, -2), NONE);
        Check.due("sworn: none", x.loopholes(1, 5, 1, -1), 0);
        Check.due("l 0", x.loopholes(0, 0, 0, -1), NONE);
        Check.due("l 6", x.loopholes(0, 6, 0, -1), NONE);
        SwornDays y = Check.country("p:a;dh9", times(12, "a"), "b", "ab");
        Check.due("harm of twelve", y.harm(0), 108);
        Check.due("harm of none", y.harm(1), 0);
        Check.due("harm of two", y.harm(2), 9);
        Check.due("harm of row 3", y.harm(3), NONE);
        Check.due("harm of row -1", y.harm(-1), NONE);
    }

    // ---- eyes

    private static void safe() {
        SwornDays x = Check.country("p:" + times(12, "a") + ";p:a;p:ab;ep0o1f11;ep0o2f1t1");
        Check.due("no eye: all twelve", x.safe(0), 4095);
        Check.due("an eye behind the end of its row", x.safe(1), 1);
        Check.due("an eye on the last place", x.safe(2), 1);
        SwornDays y = Check.country("p:" + times(12, "a") + ";p:a;p:ab;ep1o0f0t0;ep1o0f11t11;eo1;eo2f1");
        Check.due("eyes on the first and the last", y.safe(0), 4095 - 1 - 2048);
        Check.due("an eye on all", y.safe(1), 0);
        Check.due("an eye from the second on", y.safe(2), 1);
        SwornDays z = Check.country("p:a;p:a;eo1", "abc");
        z.lives(0, 0);
        Check.due("by the row as it is", z.safe(0), 7);
    }

    private static void cover() {
        Check.due("no eye at all", Check.country("p:a;p:a").cover(0), 0);
        Check.due("no eye on it", Check.country("p:a;p:a;e").cover(0), 0);
        Check.due("one eye", Check.country("p:a;p:a;e").cover(1), 1);
        Check.due("of two that are alike the first", Check.country("p:a;p:a;e;e").cover(1), 1);
        Check.due("one that spans all", Check.country("p:a;p:a;et5;ef6;e").cover(1), 4);
        Check.due("three, of several the least", Check.country("p:a;p:a;et3;ef2t8;ef4t9;ef9").cover(1), 1 + 2 + 8);
        Check.due("two of three", Check.country("p:a;p:a;et5;ef3t8;ef6").cover(1), 1 + 4);
        Check.due("bits by numbers", Check.country("p:a;p:a;ep1o0;e;ep1o0").cover(1), 2);
        StringBuilder eight = new StringBuilder("p:a;p:a");
        for (int e = 0; e < 8; e++) {
            eight.append(";ef").append(e + 4).append("t").append(e + 4);
        }
        Check.due("all eight", Check.country(eight.toString()).cover(1), 255);
        Check.due("the last place counts", Check.country("p:a;p:a;et10;ef11;et11").cover(1), 4);
        Check.due("the first place counts", Check.country("p:a;p:a;ef1;et0;e").cover(1), 4);
    }

    private static void bold() {
        // All places are as good: the lowest.
        SwornDays x = Check.country("pw1:" + times(12, "a") + ";p:a;pw0:a;da1j4;ep1o0f0t10");
        Check.due("c 0: the lowest", x.bold(0, 0, 0), 0);
        Check.due("c 0", x.bold(0, 0, 1), 15);
        Check.due("c 1: the unseen", x.bold(0, 1, 0), 11);
        Check.due("c 1", x.bold(0, 1, 1), 15);
        Check.due("c 99", x.bold(0, 99, 0), 11);
        Check.due("c 100", x.bold(0, 100, 0), HIDDEN);
        Check.due("c -1", x.bold(0, -1, 0), HIDDEN);
        Check.due("what 2", x.bold(0, 0, 2), HIDDEN);
        Check.due("what -1", x.bold(0, 0, -1), HIDDEN);
        Check.due("it wants nothing", x.bold(1, 0, 0), HIDDEN);
        Check.due("what it has already", x.bold(2, 0, 1), 1);
        Check.due("no such person", x.bold(3, 0, 0), HIDDEN);
        // Seen everywhere: the cost is borne everywhere.
        SwornDays y = Check.country("pw1:aa;p:a;ep1o0");
        Check.due("seen everywhere", y.bold(0, 99, 0), 0);
        Check.due("seen everywhere", y.bold(0, 99, 1), 2 - 99);
        // The cost comes behind the bounds of joy.
        Check.due("9,999 less 99", tasted("pw1:a;p:a;ep1o0", "y:9999*2").bold(0, 99, 1), 9900);
        Check.due("-9,999 less 99", tasted("pw1:a;p:a;ep1o0", "y:0-9999*2").bold(0, 99, 1), -10098);
        // A cost that just evens out: the lowest stays; one more and it does not.
        SwornDays z = Check.country("pw2:ab;p:a;da0j1;da1j4;da2j9;ep1o0t0");
        Check.due("c 3: 13 - 3 against 10", z.bold(0, 3, 0), 0);
        Check.due("c 4: 13 - 4 against 10", z.bold(0, 4, 0), 1);
    }

    // ---- undone by, length

    private static void fails() {
        SwornDays x = Check.country("p:abc;p:abc;va2;va1;va1;va0;vp1a7;vp1k6a0");
        Check.due("the lowest place", x.fails(0, 0), 3);
        Check.due("where", x.fails(0, 1), 0);
        x.pardon(3);
        Check.due("of several the lowest number", x.fails(0, 0), 1);
        Check.due("where", x.fails(0, 1), 1);
        x.pardon(1);
        Check.due("the next of them", x.fails(0, 0), 2);
        x.pardon(2);
        Check.due("the last place", x.fails(0, 1), 2);
        x.pardon(0);
        Check.due("none in force", x.fails(0, 0), NONE);
        Check.due("none in force", x.fails(0, 1), NONE);
        Check.due("none broken", x.fails(1, 0), NONE);
        Check.due("what 2", x.fails(0, 2), NONE);
        Check.due("what -1", x.fails(0, -1), NONE);
        Check.due("no such person", x.fails(2, 0), NONE);
        SwornDays y = Check.country("p:" + times(11, "b") + "a;v");
        Check.due("the twelfth place", y.fails(0, 1), 11);
    }

    private static void length() {
        Check.due("no vow", Check.country("p:a").length(0), 0);
        Check.due("a term of 1", Check.country("p:b;vt1").length(0), 1);
        Check.due("a term of 98", Check.country("p:b;vt98").length(0), 98);
        Check.due("a term of 99", Check.country("p:b;vt99").length(0), 99);
        // A term of 50 that is doubled once is 100: one day too many, and a day on it is not.
        SwornDays x = Check.country("p:a;p:a;vt50;eo0p1");
        x.days(1);
        x.change(0, 0, 1);
        Check.due("a term of 100", x.vow(0, 5), 100);
        Check.due("not within 99", x.length(0), NONE);
        x.days(1);
        Check.due("within 99", x.length(0), 99);
        x.pardon(0);
        Check.due("not in force", x.length(0), 0);
        Check.due("unseen for ever", Check.country("p:a;vt1").length(0), NONE);
        Check.due("the longest of them", Check.country("p:b;vt3;vt8;vt5").length(0), 8);
        Check.due("another one's does not count", Check.country("p:b;p:b;vp1t8").length(0), 0);
        Check.due("struck on the first day", Check.country("p:b;vk7a0t99").length(0), 1);
        Check.due("no such person", x.length(2), NONE);
        Check.due("no such person", x.length(-1), NONE);
        Check.due("the day stays", x.count(7), 2);
        Check.due("the log stays", x.count(10), 2);
    }

    // ---- seen days

    private static void seenDays() {
        SwornDays x = Check.country("p:a;p:b", "a", "ab", "abcdefghabcd");
        for (int i = 1; i <= 8; i++) {
            Check.due("see " + i, x.see(i % 2, i % 3), i);
            Check.due("seen days", x.count(9), i);
        }
        Check.due("a ninth", x.see(0, 0), NONE);
        Check.due("a ninth of the other", x.see(1, 0), NONE);
        Check.due("eight", x.count(9), 8);
        Check.due("no act", x.count(11), 0);
        Check.due("undo brings none back", x.undo(), NONE);
    }

    /** "of KIND 0 b and n 0, of KIND 1, 4 b 0, of KIND 2, 3, 5 n 0 and b not a", n 0 .. 3, rising. */
    private static void promised() {
        SwornDays x = Check.country("p:a;p:b;vt9", "a");
        int[] due = new int[240];
        int n = 0;
        for (int number = 0; number < 6000; number++) {
            int kind = number / 1000;
            int a = number / 100 % 10;
            int b = number / 10 % 10;
            int c = number % 10;
            boolean counted = kind == 1 || kind == 4;
            boolean paired = kind == 2 || kind == 3 || kind == 5;
            if (a < 8 && b < 8 && c <= (counted ? 3 : 0) && (paired ? a != b : b == 0)) {
                due[n] = number;
                n++;
            }
        }
        Check.due("as many as there can be", n, 240);
        Check.due("no day seen: all", x.promised(0, -1), 240);
        for (int i = 0; i < 240; i++) {
            Check.due("the " + i + "-th", x.promised(0, i), due[i]);
        }
        Check.due("none behind the last", x.promised(0, 240), NONE);
        Check.due("i -2", x.promised(0, -2), NONE);
        Check.due("no such person", x.promised(2, -1), NONE);
        x.see(0, 0);
        Check.due("another one's day", x.promised(1, -1), 240);
        // The day a: not never a (1), nor twice or thrice a, nor any other once (2 + 7 times 3), nor a ahead of
        // another (7) or followed by it (7), nor a not at all (1).
        Check.due("the day a", x.promised(0, -1), 240 - 1 - 23 - 7 - 7 - 1);
        Check.due("the last", x.promised(0, 200), 5760);
        Check.due("none behind the last", x.promised(0, 201), NONE);
        Check.due("what is sworn does not matter", x.promised(0, 0), 100);
    }

    private static void tells() {
        SwornDays x = Check.country("p:a;p:b", "a", "b", "a");
        Check.due("of all, the day a breaks", x.tells(0, 0), 39);
        x.see(0, 0);
        Check.due("its own day breaks none", x.tells(0, 0), 0);
        Check.due("nor does one like it", x.tells(0, 2), 0);
        // Of those kept by a, b breaks: never b, a once, b none, b ahead of others (7, with b ahead of a), b followed
        // by others (7); all of them are kept by a.
        Check.due("the day b", x.tells(0, 1), 1 + 1 + 7 + 7 + 1);
        Check.due("no such row", x.tells(0, 3), NONE);
        Check.due("no such row", x.tells(0, -1), NONE);
        Check.due("no such person", x.tells(2, 0), NONE);
        x.see(0, 1);
        Check.due("both seen", x.tells(0, 1), 0);
    }

    private static void tempting() {
        Check.due("no row", Check.country("p:a").tempting(0), NONE);
        SwornDays x = Check.country("p:a;p:a", "h");
        Check.due("one row", x.tempting(0), 0);
        Check.due("no such person", x.tempting(2), NONE);
        Check.due("no such person", x.tempting(-1), NONE);
        SwornDays y = Check.country("p:a;p:a", "a", "b", "abcdefghabcd", "abcdefghabcd", "c", "d");
        int lowest = NONE;
        int least = 999;
        for (int row = 0; row < 6; row++) {
            int broken = y.tells(0, row);
            int apart = Math.abs(y.promised(0, -1) - broken - broken);
            if (apart < least) {
                lowest = row;
                least = apart;
            }
        }
        Check.due("of two alike the lower", lowest, 2);
        Check.due("tempting", y.tempting(0), 2);
        // 123 of 240 are as near to the half as 117 are, from the other side.
        for (int first = 0; first < 2; first++) {
            String[] rows = {"abcdefghcaeb", "abcdefghabcd"};
            SwornDays even = Check.country("p:a", rows[first], rows[1 - first]);
            Check.due("more than the half are broken", even.tells(0, first), 123);
            Check.due("less than the half are broken", even.tells(0, 1 - first), 117);
            Check.due("as near: the lowest", even.tempting(0), 0);
        }
        SwornDays z = Check.country("p:a", "a", "b", "c");
        Check.due("all are as near: the lowest", z.tempting(0), 0);
        z.see(0, 0);
        Check.due("a breaks none then, b breaks some", z.tempting(0), 1);
    }

    // ---- the whole country

    private static void huts() {
        Check.due("no vow", Check.country("p:a;p:a").huts(-1), 0);
        Check.due("no vow", Check.country("p:a;p:a").huts(0), NONE);
        Check.due("one person", Check.country("p:a;v;vk1").huts(-1), 0);
        Check.due("n 0 is no must", Check.country("p:a;p:a;v;vp1k1n0").huts(-1), 0);
        Check.due("n 1", Check.country("p:a;p:a;v;vp1k1n1").huts(-1), 1);
        Check.due("n 9", Check.country("p:a;p:a;v;vp1k1n9").huts(0), 1);
        Check.due("the other way round", Check.country("p:a;p:a;vk1;vp1").huts(0), 1);
        Check.due("another deed", Check.country("p:a;p:a;v;vp1k1a1").huts(-1), 0);
        Check.due("none at most is no never", Check.country("p:a;p:a;vk4n0;vp1k1").huts(-1), 0);
        Check.due("twice against one another is one pair", Check.country("p:a;p:a;v;vp1k1;va1;vp1k1a1").huts(-1), 1);
        SwornDays x = Check.country("p:a;p:a;v;vp1k1");
        x.pardon(0);
        Check.due("not in force", x.huts(-1), 0);
        x.undo();
        x.pardon(1);
        Check.due("not in force", x.huts(-1), 0);
        // All ten pairs of five persons, by twelve vows about three deeds.
        SwornDays y = Check.country("p:a;p:a;p:a;p:a;p:a;v;vp1;vp2k1;vp3k1;vp4k1;va1;vp2a1;vp1k1a1");
        y.swear(3, 1101, 9);
        y.swear(4, 1109, 9);
        y.swear(3, 200, 9);
        Check.due("nine pairs", y.huts(-1), 9);
        Check.due("no tenth pair", y.huts(9), NONE);
        y.swear(4, 1201, 9);
        int[] due = {1, 2, 3, 4, 12, 13, 14, 23, 24, 34};
        Check.due("ten pairs", y.huts(-1), 10);
        for (int i = 0; i < 10; i++) {
            Check.due("pair " + i, y.huts(i), due[i]);
        }
        Check.due("no eleventh pair", y.huts(10), NONE);
        Check.due("i -2", y.huts(-2), NONE);
    }

    private static void easyAndLeft() {
        Check.due("one without a vow", Check.country("p:a").easy(), 1);
        Check.due("five without a vow", Check.country("p:a;p:a;p:a;p:a;p:a").easy(), 31);
        Check.due("none", Check.country("p:a;p:a;v;vp1").easy(), 0);
        SwornDays x = Check.country("p:a;p:b;p:a;p:a;p:a;v;vp1;vp2;vp4;vk7a0");
        Check.due("two of five", x.easy(), 2 + 8);
        x.pardon(0);
        Check.due("not in force", x.easy(), 1 + 2 + 8);
        Check.due("vows about vows do not count", Check.country("p:a;vk7a0;vk7a1").easy(), 1);
        Check.due("left of none", Check.country("p:a").left(0), 0);
        SwornDays y = Check.country("p:a;p:b;vt99;vt1;vp1t50;eo0p1");
        Check.due("left of two", y.left(0), 100);
        Check.due("left of the other", y.left(1), 50);
        Check.due("no such person", y.left(2), NONE);
        Check.due("no such person", y.left(-1), NONE);
        y.pardon(0);
        Check.due("left of one", y.left(0), 1);
        SwornDays z = Check.country("p:a;p:b;eo0p1");
        for (int v = 0; v < 12; v++) {
            z.swear(0, 0, 99);
        }
        z.days(10);
        Check.due("twelve of 999", z.left(0), 12 * 999);
    }

    public static void main(String[] args) {
        can();
        kinds();
        whoseVows();
        strike();
        together();
        joyHeld();
        best();
        sentence();
        loopholes();
        safe();
        cover();
        bold();
        fails();
        length();
        seenDays();
        promised();
        tells();
        tempting();
        huts();
        easyAndLeft();
        Check.end("BoundsOfRows");
    }
}
