/** Promises 15 to 23 and 45, 46: acts, days, decades, undoing, the log, images. */
public final class ActPromises {
    private static void lives() {
        SwornDays x = Check.country("p:abc;p:d", "gh", "abcdefghabcd");
        Check.due("lives(0, 0)", x.lives(0, 0), 1);
        Check.due("size", x.person(0, 2), 2);
        Check.due("deed", x.person(0, 4), 7);
        Check.due("lives(0, 0) again", x.lives(0, 0), 2);
        Check.due("lives(1, 1)", x.lives(1, 1), 3);
        Check.due("size", x.person(1, 2), 12);
        Check.due("lives(2, 0)", x.lives(2, 0), Check.NONE);
        Check.due("lives(-1, 0)", x.lives(-1, 0), Check.NONE);
        Check.due("lives(0, 2)", x.lives(0, 2), Check.NONE);
        Check.due("lives(0, -1)", x.lives(0, -1), Check.NONE);
        Check.due("undo", x.undo(), 2);
        Check.due("size", x.person(1, 2), 1);
        Check.due("undo", x.undo(), 1);
        Check.due("undo", x.undo(), 0);
        Check.due("size", x.person(0, 2), 3);
        Check.due("deed", x.person(0, 5), 2);
        Check.due("undo", x.undo(), Check.NONE);
        x.lives(0, 1);
        x.change(0, 11, 0);
        Check.due("the row told stays", x.row(1, 11), 3);
    }

    private static void change() {
        SwornDays x = Check.country("p:abc;p:d");
        Check.due("change(0, 2, 7)", x.change(0, 2, 7), 1);
        Check.due("deed", x.person(0, 5), 7);
        Check.due("it has", x.change(0, 2, 7), Check.NONE);
        Check.due("change(0, 3, 0)", x.change(0, 3, 0), Check.NONE);
        Check.due("change(0, -1, 0)", x.change(0, -1, 0), Check.NONE);
        Check.due("change(0, 0, 8)", x.change(0, 0, 8), Check.NONE);
        Check.due("change(0, 0, -1)", x.change(0, 0, -1), Check.NONE);
        Check.due("change(2, 0, 1)", x.change(2, 0, 1), Check.NONE);
        Check.due("change(-1, 0, 1)", x.change(-1, 0, 1), Check.NONE);
        Check.due("acts", x.count(11), 1);
        Check.due("undo", x.undo(), 0);
        Check.due("deed", x.person(0, 5), 2);
    }

    private static void swear() {
        SwornDays x = Check.country("p:abc;p:d;v");
        Check.due("swear(1, 5769, 99)", x.swear(1, 5769, 99), 1);
        int[] due = {1, 5, 7, 6, 9, 99};
        for (int what = 0; what < 6; what++) {
            Check.due("vow(1, " + what + ")", x.vow(1, what), due[what]);
        }
        Check.due("acts", x.count(11), 1);
        int[][] wrong = {{2, 0, 1}, {-1, 0, 1}, {0, -1, 1}, {0, 6000, 1}, {0, 800, 1}, {0, 80, 1}, {0, 5800, 1},
            {0, 0, 0}, {0, 0, 100}, {0, 10000, 1}, {0, Integer.MAX_VALUE, 1}, {0, Integer.MIN_VALUE, 1}};
        for (int[] w : wrong) {
            Check.due("swear(" + w[0] + ", " + w[1] + ", " + w[2] + ")", x.swear(w[0], w[1], w[2]), Check.NONE);
        }
        Check.due("acts", x.count(11), 1);
        for (int v = 2; v < 12; v++) {
            Check.due("swear " + v, x.swear(0, 0, 1), v);
        }
        Check.due("a thirteenth", x.swear(0, 0, 1), Check.NONE);
        Check.due("vows", x.count(1), 12);
        Check.due("undo", x.undo(), 10);
        Check.due("vows", x.count(1), 11);
        Check.due("vow(11, 0)", x.vow(11, 0), Check.NONE);
        Check.due("another twelfth", x.swear(1, 1111, 5), 11);
        Check.due("its kind", x.vow(11, 1), 1);
    }

    private static void pardonAndAmnesty() {
        SwornDays x = Check.country("p:abc;vt9;vt1;vt2;vk6a0t99");
        Check.due("amnesty", x.amnesty(), 4);
        int[] due = {5, 1, 1, 50};
        for (int v = 0; v < 4; v++) {
            Check.due("term " + v, x.vow(v, 5), due[v]);
        }
        Check.due("pardon(1)", x.pardon(1), true);
        Check.due("term", x.vow(1, 5), 0);
        Check.due("pardon(1) again", x.pardon(1), false);
        Check.due("pardon(4)", x.pardon(4), false);
        Check.due("pardon(-1)", x.pardon(-1), false);
        Check.due("amnesty", x.amnesty(), 3);
        Check.due("term", x.vow(1, 5), 0);
        Check.due("acts", x.count(11), 3);
        Check.due("undo", x.undo(), 2);
        Check.due("undo", x.undo(), 1);
        Check.due("term", x.vow(1, 5), 1);
        Check.due("undo", x.undo(), 0);
        Check.due("term", x.vow(0, 5), 9);
        SwornDays y = Check.country("p:a");
        Check.due("amnesty of none", y.amnesty(), 0);
        Check.due("it is an act", y.count(11), 1);
    }

    private static void days() {
        // Vow 0 is broken at 1, under an eye; vow 1 is broken at 2, out of its span; vow 2 is kept; vow 3 is broken.
        SwornDays x = Check.country("ps1:abc;p:d;va1t5;va2t5;va3t2;vp1k7a2t60;eo0p1f0t1");
        Check.due("days(0)", x.days(0), Check.NONE);
        Check.due("days(61)", x.days(61), Check.NONE);
        Check.due("days(-1)", x.days(-1), Check.NONE);
        Check.due("days(1)", x.days(1), 1);
        int[] log = {1, 3, 2, 0};
        int[] terms = {5, 5, 1, 120};
        for (int i = 0; i < 4; i++) {
            Check.due("log(0, " + i + ")", x.log(0, i), log[i]);
            Check.due("term " + i, x.vow(i, 5), terms[i]);
        }
        Check.due("slips", x.person(0, 1), 0);
        Check.due("days(1)", x.days(1), 2);
        int[] then = {10, 5, 0, 240};
        for (int i = 0; i < 4; i++) {
            Check.due("term " + i, x.vow(i, 5), then[i]);
        }
        // Vow 2 is out of force and counts as kept, so vow 3 is broken still.
        Check.due("days(1)", x.days(1), 3);
        Check.due("kept", x.log(0, 0), 0);
        Check.due("broken", x.log(0, 1), 3);
        Check.due("seen", x.log(0, 2), 2);
        Check.due("kept the day ahead", x.log(1, 0), 1);
        Check.due("days(2)", x.days(2), 5);
        Check.due("term 3", x.vow(3, 5), 999);
        Check.due("days(60)", x.days(60), 65);
        Check.due("term 0", x.vow(0, 5), 999);
        Check.due("term 1", x.vow(1, 5), 5);
        Check.due("acts", x.count(11), 40);
        Check.due("log is long", x.count(10), 60);
    }

    private static void logAndUndo() {
        SwornDays x = Check.country("p:b;vt4");
        Check.due("days(60)", x.days(60), 60);
        Check.due("the oldest", x.log(59, 0), 1);
        Check.due("the fifth", x.log(55, 0), 0);
        Check.due("log(60, 0)", x.log(60, 0), Check.NONE);
        Check.due("log(-1, 0)", x.log(-1, 0), Check.NONE);
        Check.due("log(0, 4)", x.log(0, 4), Check.NONE);
        Check.due("log(0, -1)", x.log(0, -1), Check.NONE);
        Check.due("days(40)", x.days(40), 100);
        Check.due("the oldest then", x.log(59, 0), 0);
        for (int i = 39; i >= 0; i--) {
            Check.due("undo", x.undo(), i);
        }
        Check.due("undo", x.undo(), Check.NONE);
        Check.due("day", x.count(7), 60);
        Check.due("the oldest is there again", x.log(59, 0), 1);
        Check.due("the oldest is there again", x.log(56, 0), 1);
        Check.due("log is long", x.count(10), 60);
        SwornDays y = Check.country("p:b;vt4");
        y.days(3);
        y.undo();
        Check.due("log is long", y.count(10), 2);
        Check.due("log(2, 0)", y.log(2, 0), Check.NONE);
        Check.due("term", y.vow(0, 5), 2);
        y.change(0, 0, 0);
        y.days(1);
        Check.due("broken", y.log(0, 1), 1);
        Check.due("kept ahead", y.log(1, 0), 1);
        Check.due("log is long", y.count(10), 3);
    }

    /** The draws told anew: what the days must be like, told by changes by hand. */
    private static void decades() {
        long[] seeds = {0, 1, -7, 123456789012345L, Long.MIN_VALUE};
        for (long seed : seeds) {
            SwornDays x = Check.country("pw2:abde;p:dd;pw0s1:hhh;va2t9;vp2a0t9;vp1a2t9;vk4a2n1t3;ep1o0f1t2;ep1o2");
            SwornDays y = Check.country("pw2:abde;p:dd;pw0s1:hhh;va2t9;vp2a0t9;vp1a2t9;vk4a2n1t3;ep1o0f1t2;ep1o2");
            x.tempted(50);
            Check.due("decades(0)", x.decades(0, seed), Check.NONE);
            Check.due("decades(61)", x.decades(61, seed), Check.NONE);
            Check.due("decades(30)", x.decades(30, seed), 30);
            java.math.BigInteger state = java.math.BigInteger.valueOf(seed);
            int[] wants = {2, -1, 0};
            int[] sizes = {4, 2, 3};
            for (int day = 0; day < 30; day++) {
                int[] places = {-1, -1, -1};
                int[] were = new int[3];
                for (int p = 0; p < 3; p++) {
                    if (wants[p] < 0) {
                        continue;
                    }
                    state = next(state);
                    if (draw(state, 100) < 50) {
                        state = next(state);
                        places[p] = draw(state, sizes[p]);
                        were[p] = y.person(p, 3 + places[p]);
                        y.change(p, places[p], wants[p]);
                    }
                }
                y.days(1);
                for (int p = 0; p < 3; p++) {
                    if (places[p] >= 0) {
                        y.change(p, places[p], were[p]);
                    }
                }
            }
            for (int v = 0; v < 4; v++) {
                Check.due("term " + v + " by seed " + seed, x.vow(v, 5), y.vow(v, 5));
            }
            for (int i = 0; i < 30; i++) {
                for (int what = 0; what < 4; what++) {
                    Check.due("log(" + i + ", " + what + ") by seed " + seed, x.log(i, what), y.log(i, what));
                }
            }
            Check.due("slips", x.person(2, 1), y.person(2, 1));
            Check.due("rows stay", x.person(0, 3), 0);
            Check.due("acts", x.count(11), 30);
            Check.due("undo", x.undo(), 29);
            Check.due("day", x.count(7), 29);
        }
        SwornDays z = Check.country("pw0:bbb;va0t9");
        Check.due("decades without temptation", z.decades(9, 5), 9);
        Check.due("are kept", z.vow(0, 5), 0);
    }

    private static java.math.BigInteger next(java.math.BigInteger x) {
        return x.multiply(new java.math.BigInteger("6364136223846793005"))
            .add(new java.math.BigInteger("1442695040888963407")).mod(java.math.BigInteger.ONE.shiftLeft(64));
    }

    private static int draw(java.math.BigInteger x, int m) {
        return x.shiftRight(33).mod(java.math.BigInteger.valueOf(m)).intValue();
    }

    private static void images() {
        SwornDays x = Check.country("ps2:ab;p:c;va0t3;ep1o0", "hh");
        Check.due("back without", x.back(), Check.NONE);
        x.days(1);
        x.swear(1, 1202, 5);
        Check.due("image", x.image(), 1);
        Check.due("acts stay", x.count(11), 2);
        x.lives(0, 0);
        x.days(5);
        x.see(0, 0);
        x.tempted(9);
        Check.due("term", x.vow(0, 5), 0);
        Check.due("back", x.back(), 1);
        Check.due("term", x.vow(0, 5), 3);
        Check.due("slips", x.person(0, 1), 1);
        Check.due("size", x.person(0, 2), 2);
        Check.due("deed", x.person(0, 3), 0);
        Check.due("day", x.count(7), 1);
        Check.due("log is long", x.count(10), 1);
        Check.due("log", x.log(0, 1), 1);
        Check.due("acts", x.count(11), 0);
        Check.due("undo", x.undo(), Check.NONE);
        Check.due("seen days stay", x.count(9), 1);
        Check.due("tempted stays", x.count(8), 9);
        x.days(3);
        x.swear(0, 0, 1);
        Check.due("back once more", x.back(), 1);
        Check.due("vows", x.count(1), 2);
        Check.due("vow", x.vow(1, 2), 2);
        x.days(2);
        Check.due("image instead", x.image(), 3);
        x.days(60);
        x.days(60);
        Check.due("back", x.back(), 3);
        Check.due("log(2, 2)", x.log(2, 2), 1);
        Check.due("log(3, 2)", x.log(3, 2), Check.NONE);
        SwornDays y = Check.country("p:b");
        y.swear(0, 100, 9);
        y.image();
        y.undo();
        y.swear(0, 1333, 8);
        Check.due("back", y.back(), 0);
        Check.due("the vow of the image", y.vow(0, 1), 0);
        Check.due("its a", y.vow(0, 2), 1);
        Check.due("its term", y.vow(0, 5), 9);
    }

    public static void main(String[] args) {
        lives();
        change();
        swear();
        pardonAndAmnesty();
        days();
        logAndUndo();
        decades();
        images();
        Check.end("ActPromises");
    }
}
