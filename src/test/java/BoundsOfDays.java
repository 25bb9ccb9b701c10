/**
 * The boundary cases of promises 13 to 23, 45 and 46 and of parts 2 and 4 of the terms: where a vow is broken, terms
 * that run out and double, slips, spans, paradoxes, the log, acts, images. One check or more for each such sentence.
 */
public final class BoundsOfDays {
    private static final int NONE = SwornDays.NONE;
    private static final int HIDDEN = SwornDays.HIDDEN;

    private BoundsOfDays() {
    }

    private static String times(int n, String part) {
        StringBuilder b = new StringBuilder();
        for (int i = 0; i < n; i++) {
            b.append(part);
        }
        return b.toString();
    }

    // ---- part 2: what breaks a vow, and where

    private static void brokenDue(String vow, String row, int want) {
        SwornDays x = Check.country("p:a;v" + vow, row);
        Check.due("broken of v" + vow + " by " + row, x.broken(0, 0), want);
        x.lives(0, 0);
        Check.due("fares of v" + vow + " by " + row, x.fares(0), want == NONE ? 0 : 1);
        x.pardon(0);
        Check.due("broken of v" + vow + " by " + row + ", not in force", x.broken(0, 0), want);
    }

    /** "0 no a": at the first a, from the first place to the last. */
    private static void kindNever() {
        for (int at = 0; at < 12; at++) {
            brokenDue("k0a7", times(at, "a") + times(12 - at, "h"), at);
            brokenDue("k0a7", times(at, "a") + "h", at);
        }
        brokenDue("k0a7", times(12, "a"), NONE);
        brokenDue("k0a7n9b7", "g", NONE);
    }

    /** "1 a n times or more": n 0 is kept by any row; one too few is broken at the last place. */
    private static void kindOften() {
        for (int n = 0; n <= 9; n++) {
            brokenDue("k1a3n" + n, times(n, "d") + "a", NONE);
            brokenDue("k1a3n" + n, times(n, "d") + times(12 - n, "d"), NONE);
            brokenDue("k1a3n" + n, "a" + times(n, "d"), NONE);
            if (n > 0) {
                brokenDue("k1a3n" + n, times(n - 1, "d") + "a", n - 1);
                brokenDue("k1a3n" + n, times(n - 1, "d") + times(13 - n, "a"), 11);
            }
        }
        brokenDue("k1a3n0", "a", NONE);
        brokenDue("k1a3", "a", 0);
    }

    /** "2 no a ahead of the first b": one is enough, behind it all are free; without any b each a is too early. */
    private static void kindNotAhead() {
        brokenDue("k2a0b1", "ab", 0);
        brokenDue("k2a0b1", "ba", NONE);
        brokenDue("k2a0b1", "a", 0);
        brokenDue("k2a0b1", "b", NONE);
        brokenDue("k2a0b1", "c", NONE);
        brokenDue("k2a0b1", times(10, "c") + "ab", 10);
        brokenDue("k2a0b1", times(11, "c") + "a", 11);
        brokenDue("k2a0b1", times(10, "c") + "ba", NONE);
        brokenDue("k2a0b1", "baabaa", NONE);
        brokenDue("k2a0b0", "aaa", NONE);
        brokenDue("k2a0b0", "b", NONE);
    }

    /** "3 directly behind each a comes b": at what stands behind that a; at the last place, if nothing does. */
    private static void kindFollowed() {
        brokenDue("k3a0b1", "a", 0);
        brokenDue("k3a0b1", "ba", 1);
        brokenDue("k3a0b1", "ab", NONE);
        brokenDue("k3a0b1", "aa", 1);
        brokenDue("k3a0b1", "ac", 1);
        brokenDue("k3a0b1", "acb", 1);
        brokenDue("k3a0b1", "aba", 2);
        brokenDue("k3a0b1", "abac", 3);
        brokenDue("k3a0b1", times(11, "c") + "a", 11);
        brokenDue("k3a0b1", times(10, "c") + "ac", 11);
        brokenDue("k3a0b1", times(6, "ab"), NONE);
        brokenDue("k3a0b1", times(12, "c"), NONE);
        brokenDue("k3a0b0", "a", 0);
        brokenDue("k3a0b0", times(12, "a"), 11);
        brokenDue("k3a0b0", "aab", 2);
        brokenDue("k3a0b0", "b", NONE);
    }

    /** "4 a n times at most": at the first a that is too much. */
    private static void kindSeldom() {
        for (int n = 0; n <= 9; n++) {
            brokenDue("k4a3n" + n, "a" + times(n, "d"), NONE);
            brokenDue("k4a3n" + n, times(n + 1, "d"), n);
            brokenDue("k4a3n" + n, times(n, "d") + "a" + times(2, "d"), n + 1);
            brokenDue("k4a3n" + n, times(n, "d") + times(11 - n, "a") + "d", 11);
        }
        brokenDue("k4a3n9", times(12, "d"), 9);
    }

    /** "5 no a directly behind b": the first place has nothing ahead of it. */
    private static void kindNotBehind() {
        brokenDue("k5a0b1", "a", NONE);
        brokenDue("k5a0b1", "b", NONE);
        brokenDue("k5a0b1", "ba", 1);
        brokenDue("k5a0b1", "ab", NONE);
        brokenDue("k5a0b1", "bca", NONE);
        brokenDue("k5a0b1", times(10, "c") + "ba", 11);
        brokenDue("k5a0b1", "babababababa", 1);
        brokenDue("k5a0b0", "a", NONE);
        brokenDue("k5a0b0", "aa", 1);
        brokenDue("k5a0b0", "aba", NONE);
    }

    // ---- part 2: a day

    /** Days that keep: a term of 1 runs out; one not in force neither counts nor changes. */
    private static void termsRunOut() {
        SwornDays x = Check.country("p:b;vt1;vt2");
        Check.due("in force", x.count(12), 2);
        x.days(1);
        Check.due("a term of 1 is 0", x.vow(0, 5), 0);
        Check.due("a term of 2 is 1", x.vow(1, 5), 1);
        Check.due("one in force", x.count(12), 1);
        Check.due("both are there", x.count(1), 2);
        Check.due("two were kept", x.log(0, 0), 2);
        x.days(1);
        Check.due("none in force", x.count(12), 0);
        Check.due("one was kept", x.log(0, 0), 1);
        x.days(1);
        Check.due("0 stays 0", x.vow(0, 5), 0);
        Check.due("none was kept", x.log(0, 0), 0);
        x.change(0, 0, 0);
        x.days(1);
        Check.due("none is broken", x.log(0, 1), 0);
        SwornDays y = Check.country("p:b;vt99");
        y.days(60);
        y.days(38);
        Check.due("99 behind 98 days", y.vow(0, 5), 1);
        y.days(1);
        Check.due("99 behind 99 days", y.vow(0, 5), 0);
    }

    /** "TERM is twice as much (999 at most)" */
    private static void termsDouble() {
        SwornDays x = Check.country("p:a;p:b;vt1;vt99;vt62;vt63;eo0p1");
        int[] due = {1, 99, 62, 63};
        for (int day = 1; day <= 12; day++) {
            x.days(1);
            for (int v = 0; v < 4; v++) {
                due[v] = 2 * due[v] > 999 ? 999 : 2 * due[v];
                Check.due("term " + v + " on day " + day, x.vow(v, 5), due[v]);
            }
            Check.due("seen", x.log(0, 2), 4);
        }
        // 62 becomes 992 and 999, 63 becomes 504 and 999, 999 stays.
        Check.due("999 is the most", x.vow(0, 5) + x.vow(1, 5) + x.vow(2, 5) + x.vow(3, 5), 4 * 999);
        x.amnesty();
        Check.due("half of 999, rounded up", x.vow(0, 5), 500);
        x.days(1);
        Check.due("twice 500", x.vow(0, 5), 999);
        x.change(0, 0, 1);
        x.days(1);
        Check.due("999 less 1", x.vow(0, 5), 998);
        x.amnesty();
        Check.due("half of 998", x.vow(0, 5), 499);
        x.change(0, 0, 0);
        x.days(1);
        Check.due("twice 499", x.vow(0, 5), 998);
    }

    /** "if that PERSON has SLIPS, one less (that is all), else .. twice as much", by numbers. */
    private static void slips() {
        SwornDays x = Check.country("ps1:a;ps1:a;vt5;vt6;vp1t7;ep1o0;ep0o1");
        x.days(1);
        Check.due("the lower number is forgiven", x.vow(0, 5), 5);
        Check.due("the other is not", x.vow(1, 5), 12);
        Check.due("another one's slips are its own", x.vow(2, 5), 7);
        Check.due("no slip is left", x.person(0, 1), 0);
        Check.due("no slip is left", x.person(1, 1), 0);
        Check.due("three were broken", x.log(0, 1), 3);
        Check.due("three were seen", x.log(0, 2), 3);
        x.days(1);
        Check.due("no slip: twice as much", x.vow(0, 5), 10);
        Check.due("slips stay at 0", x.person(0, 1), 0);
        SwornDays y = Check.country("ps9:a;p:b;vt5;eo0p1");
        y.days(9);
        Check.due("nine are forgiven", y.vow(0, 5), 5);
        Check.due("none is left", y.person(0, 1), 0);
        y.days(1);
        Check.due("the tenth is not", y.vow(0, 5), 10);
        SwornDays z = Check.country("ps3:a;vt5");
        z.days(2);
        Check.due("not seen: no slip less", z.person(0, 1), 3);
        Check.due("not seen: nothing", z.vow(0, 5), 5);
        Check.due("broken", z.log(0, 1), 1);
        Check.due("not seen", z.log(0, 2), 0);
        z.change(0, 0, 1);
        z.days(1);
        Check.due("kept: no slip less", z.person(0, 1), 3);
    }

    /** "SEEN, if an EYE on its PERSON has the place in its span": all spans, all places. */
    private static void spans() {
        for (int from = 0; from < 12; from++) {
            for (int to = from; to < 12; to++) {
                SwornDays x = Check.country("p:" + times(12, "b") + ";p:a;va7t9;ep1o0f" + from + "t" + to);
                for (int place = 0; place < 12; place++) {
                    x.change(0, place, 7);
                    x.days(1);
                    boolean in = place >= from && place <= to;
                    String said = "broken at " + place + " under " + from + " .. " + to;
                    Check.due(said + ", seen", x.log(0, 2), in ? 1 : 0);
                    Check.due(said + ", term", x.vow(0, 5), in ? 18 : 9);
                    x.undo();
                    x.undo();
                }
            }
        }
        SwornDays y = Check.country("p:a;p:a;vt5;vp1t5;e");
        y.days(1);
        Check.due("an eye of its own does not see it", y.vow(0, 5), 5);
        Check.due("an eye on the other does", y.vow(1, 5), 10);
        SwornDays z = Check.country("p:a;p:a;p:a;vt5;ep1o0;ep2o0");
        z.days(1);
        Check.due("two eyes see it once", z.log(0, 2), 1);
        Check.due("twice, not four times", z.vow(0, 5), 10);
    }

    private static void faresDue(String vows, int... want) {
        SwornDays x = Check.country("p:a;" + vows);
        for (int v = 0; v < want.length; v++) {
            Check.due("fares(" + v + ") of " + vows, x.fares(v), want[v]);
        }
    }

    /** Kept in all ways, broken in all ways, no way at all, several ways; the longest chain and rings. */
    private static void vowsAboutVows() {
        faresDue("v;vk6a0;vk7a0", 1, 1, 0);
        faresDue("va1;vk6a0;vk7a0", 0, 0, 1);
        // One about itself: that it is kept may be so or not; that it is broken can be neither.
        faresDue("vk6a0", 2);
        faresDue("vk7a0", 2);
        // Chains of seven about the last: all turn, none turns.
        faresDue("vk7a1;vk7a2;vk7a3;vk7a4;vk7a5;vk7a6;vk7a7;v", 0, 1, 0, 1, 0, 1, 0, 1);
        faresDue("vk6a1;vk6a2;vk6a3;vk6a4;vk6a5;vk6a6;vk6a7;va1", 0, 0, 0, 0, 0, 0, 0, 0);
        faresDue("v;vk7a0;vk7a1;vk7a2;vk7a3;vk7a4;vk7a5;vk7a6", 1, 0, 1, 0, 1, 0, 1, 0);
        // Rings of eight: even, and with one that does not turn.
        faresDue("vk7a1;vk7a2;vk7a3;vk7a4;vk7a5;vk7a6;vk7a7;vk7a0", 2, 2, 2, 2, 2, 2, 2, 2);
        faresDue("vk6a1;vk7a2;vk7a3;vk7a4;vk7a5;vk7a6;vk7a7;vk7a0", 2, 2, 2, 2, 2, 2, 2, 2);
        // A ring of two ways leaves others alone; one of no way strikes all vows about vows.
        faresDue("vk7a1;vk7a0;v;vk6a2;vk7a2", 2, 2, 1, 1, 0);
        faresDue("vk6a1;vk7a0;v;vk6a2;vk7a2", 2, 2, 1, 2, 2);
        // What leads into a ring of two ways is struck with it.
        faresDue("vk6a1;vk6a1;vk7a0", 2, 2, 2);
        // "a VOW not in FORCE counts as kept", also one that cut a ring.
        SwornDays x = Check.country("p:a;v;vk6a0;vk7a0;vk7a3;vk6a3");
        Check.due("a paradox", x.fares(1), 2);
        x.pardon(3);
        Check.due("no paradox: about a broken one", x.fares(1), 1);
        Check.due("no paradox: about a broken one", x.fares(2), 0);
        Check.due("about one not in force", x.fares(4), 0);
        x.pardon(0);
        Check.due("not in force: that it is kept", x.fares(1), 0);
        Check.due("not in force: that it is broken", x.fares(2), 1);
        Check.due("not in force itself", x.fares(0), NONE);
    }

    /** "STRUCK: TERM 0"; "KIND 6, 7: always" SEEN, also with no eye at all. */
    private static void struckAndSeen() {
        SwornDays x = Check.country("ps1:a;vt9;vk7a1t99;vk6a0t9");
        x.days(1);
        Check.due("struck", x.vow(1, 5), 0);
        Check.due("struck with it", x.vow(2, 5), 0);
        Check.due("two were struck", x.log(0, 3), 2);
        Check.due("none was kept", x.log(0, 0), 0);
        Check.due("one was broken", x.log(0, 1), 1);
        Check.due("not seen", x.log(0, 2), 0);
        Check.due("the plain one goes on", x.vow(0, 5), 9);
        x.days(1);
        Check.due("none is struck twice", x.log(0, 3), 0);
        SwornDays y = Check.country("ps1:a;p:b;vt9;vk6a0t9;vp1k6a0t60");
        y.days(1);
        Check.due("broken, and two of them seen", y.log(0, 1), 3);
        Check.due("broken, and two of them seen", y.log(0, 2), 2);
        Check.due("its slip", y.person(0, 1), 0);
        Check.due("forgiven", y.vow(1, 5), 9);
        Check.due("twice as much", y.vow(2, 5), 120);
        // What is decided is decided ahead of what the day changes: vow 0 runs out, and vow 1 was right.
        SwornDays z = Check.country("p:b;vt1;vk6a0t2;vk7a0t2");
        z.days(1);
        Check.due("kept", z.vow(1, 5), 1);
        Check.due("broken", z.vow(2, 5), 4);
    }

    // ---- the log

    private static void log() {
        SwornDays x = Check.country("p:b;vt99");
        Check.due("no log at first", x.count(10), 0);
        Check.due("log(0, 0) at first", x.log(0, 0), NONE);
        for (int day = 1; day <= 62; day++) {
            x.change(0, 0, day % 2 == 0 ? 1 : 0);
            x.days(1);
            int held = day < 60 ? day : 60;
            Check.due("how long on day " + day, x.count(10), held);
            Check.due("the latest", x.log(0, 0), day % 2 == 0 ? 1 : 0);
            Check.due("the oldest", x.log(held - 1, 0), (day - held + 1) % 2 == 0 ? 1 : 0);
            Check.due("none behind it", x.log(held, 0), NONE);
        }
        SwornDays y = Check.country("p:b;vt1");
        y.days(59);
        Check.due("59 days", y.count(10), 59);
        Check.due("the first is the oldest", y.log(58, 0), 1);
        y.days(1);
        Check.due("60 days", y.count(10), 60);
        Check.due("the first is the oldest", y.log(59, 0), 1);
        y.days(1);
        Check.due("60 of 61 days", y.count(10), 60);
        Check.due("the first is gone", y.log(59, 0), 0);
        Check.due("the day", y.count(7), 61);
        y.undo();
        Check.due("the first is back", y.log(59, 0), 1);
        Check.due("60 days", y.count(10), 60);
        for (int what = 0; what < 4; what++) {
            Check.due("what " + what, y.log(0, what), 0);
        }
        Check.due("what 4", y.log(0, 4), NONE);
        Check.due("what -1", y.log(0, -1), NONE);
    }

    // ---- by hand

    private static void lives() {
        SwornDays x = Check.country("p:abcdefghabcd;p:h", "g", "hgfedcbahgfe");
        Check.due("the shortest instead of the longest", x.lives(0, 0), 1);
        Check.due("its length", x.person(0, 2), 1);
        Check.due("its deed", x.person(0, 3), 6);
        Check.dueThrow("no second place", x, 0, 4);
        Check.due("the longest instead of the shortest", x.lives(1, 1), 2);
        Check.due("its length", x.person(1, 2), 12);
        Check.due("its last deed", x.person(1, 14), 4);
        Check.due("undone", x.undo(), 1);
        Check.due("its length", x.person(1, 2), 1);
        Check.due("its deed", x.person(1, 3), 7);
        Check.due("undone", x.undo(), 0);
        Check.due("its length", x.person(0, 2), 12);
        Check.due("its last deed", x.person(0, 14), 3);
    }

    private static void change() {
        SwornDays x = Check.country("p:abcdefghabcd;p:h");
        Check.due("the last place", x.change(0, 11, 7), 1);
        Check.due("the first place", x.change(0, 0, 7), 2);
        Check.due("one behind the last", x.change(0, 12, 7), NONE);
        Check.due("one ahead of the first", x.change(0, -1, 7), NONE);
        Check.due("the only place", x.change(1, 0, 0), 3);
        Check.due("a place of another one's row", x.change(1, 1, 0), NONE);
        Check.due("it has", x.change(1, 0, 0), NONE);
        Check.due("deed 8", x.change(0, 0, 8), NONE);
        Check.due("deed -1", x.change(0, 0, -1), NONE);
        Check.due("three acts", x.count(11), 3);
        Check.due("the last place has it", x.person(0, 14), 7);
        Check.due("others stay", x.person(0, 13), 2);
    }

    /** "KIND 0 .. 5, DEEDS, n 0 .. 9, TERM 1 .. 99": every number from -1 to 7,999. */
    private static void swear() {
        for (int what = -1; what < 8000; what++) {
            boolean fine = what >= 0 && what < 6000 && what / 100 % 10 < 8 && what / 10 % 10 < 8;
            SwornDays x = Check.country("p:a;p:b");
            Check.due("swear(1, " + what + ", 9)", x.swear(1, what, 9), fine ? 0 : NONE);
            Check.due("an act", x.count(11), fine ? 1 : 0);
            if (fine) {
                int back = 1000 * x.vow(0, 1) + 100 * x.vow(0, 2) + 10 * x.vow(0, 3) + x.vow(0, 4);
                Check.due("what was sworn", back, what);
            }
        }
        SwornDays x = Check.country("p:a;p:b" + times(8, ";v"));
        Check.due("term 0", x.swear(0, 0, 0), NONE);
        Check.due("term 100", x.swear(0, 0, 100), NONE);
        Check.due("term 1", x.swear(0, 0, 1), 8);
        Check.due("term 99", x.swear(1, 5779, 99), 9);
        Check.due("person 2", x.swear(2, 0, 1), NONE);
        Check.due("person -1", x.swear(-1, 0, 1), NONE);
        Check.due("the eleventh", x.swear(0, 0, 1), 10);
        Check.due("the twelfth", x.swear(0, 0, 1), 11);
        Check.due("the thirteenth", x.swear(0, 0, 1), NONE);
        x.pardon(0);
        Check.due("one not in force is still one of twelve", x.swear(0, 0, 1), NONE);
        Check.due("twelve", x.count(1), 12);
        Check.due("eleven in force", x.count(12), 11);
        SwornDays y = Check.country("p:a");
        for (int v = 0; v < 12; v++) {
            Check.due("from none: " + v, y.swear(0, 0, 1), v);
        }
        Check.due("from none: a thirteenth", y.swear(0, 0, 1), NONE);
    }

    /** "TERMS of all in FORCE are half (rounded up)": each term from 1 to 99, ten at a time. */
    private static void amnesty() {
        for (int first = 1; first <= 99; first += 9) {
            SwornDays x = Check.country("p:a;vt1");
            x.pardon(0);
            for (int i = 0; i < 9 && first + i <= 99; i++) {
                x.swear(0, 0, first + i);
            }
            Check.due("in force", x.amnesty(), x.count(1) - 1);
            Check.due("0 stays 0", x.vow(0, 5), 0);
            for (int i = 0; i < 9 && first + i <= 99; i++) {
                Check.due("half of " + (first + i), x.vow(i + 1, 5), (first + i + 1) / 2);
            }
        }
        SwornDays y = Check.country("p:a;vt99");
        for (int term = 50; term > 1; term = (term + 1) / 2) {
            Check.due("in force", y.amnesty(), 1);
            Check.due("term", y.vow(0, 5), term);
        }
        y.amnesty();
        y.amnesty();
        Check.due("1 stays 1", y.vow(0, 5), 1);
        Check.due("none told", Check.country("p:a").amnesty(), 0);
    }

    private static void pardon() {
        SwornDays x = Check.country("p:a;v;vk6a0;vk7a2t99");
        for (int v = 0; v < 3; v++) {
            Check.due("pardon(" + v + ")", x.pardon(v), true);
            Check.due("its term", x.vow(v, 5), 0);
            Check.due("again", x.pardon(v), false);
            Check.due("acts", x.count(11), v + 1);
        }
        Check.due("none in force", x.count(12), 0);
        Check.due("undone", x.undo(), 2);
        Check.due("its term", x.vow(2, 5), 99);
        Check.due("and can be pardoned again", x.pardon(2), true);
    }

    // ---- days and decades

    private static void days() {
        SwornDays x = Check.country("p:a");
        Check.due("days(0)", x.days(0), NONE);
        Check.due("days(1)", x.days(1), 1);
        Check.due("days(60)", x.days(60), 61);
        Check.due("days(61)", x.days(61), NONE);
        Check.due("days(-60)", x.days(-60), NONE);
        Check.due("decades(0)", x.decades(0, 1), NONE);
        Check.due("decades(1)", x.decades(1, 1), 62);
        Check.due("decades(60)", x.decades(60, 1), 122);
        Check.due("decades(61)", x.decades(61, 1), NONE);
        Check.due("the day", x.count(7), 122);
        Check.due("how long the log is", x.count(10), 60);
        SwornDays y = Check.country("p:a");
        for (int i = 1; i <= 100; i++) {
            Check.due("days(60)", y.days(60), 60 * i);
        }
        Check.due("how long the log is", y.count(10), 60);
        Check.due("acts", y.count(11), 40);
    }

    /** TEMPTED 0: a draw is never below it; nobody who wants nothing draws; the row is the same behind the day. */
    private static void tempted() {
        SwornDays x = Check.country("pw0:b;vt60");
        x.decades(60, 77);
        Check.due("tempted 0: all days are kept", x.vow(0, 5), 0);
        SwornDays y = Check.country("pw8:b;vt60");
        y.tempted(99);
        y.decades(60, 77);
        Check.due("it wants nothing: all days are kept", y.vow(0, 5), 0);
        SwornDays z = Check.country("pw0:b;vt60");
        z.tempted(99);
        z.decades(60, 77);
        int kept = 0;
        long s = 77;
        for (int day = 0; day < 60; day++) {
            s = s * 6364136223846793005L + 1442695040888963407L;
            if ((s >>> 33) % 100 < 99) {
                s = s * 6364136223846793005L + 1442695040888963407L;
            } else {
                kept++;
            }
        }
        Check.due("tempted 99: kept by a draw of 99 alone", z.vow(0, 5), 60 - kept);
        Check.due("its row is as it was", z.person(0, 3), 1);
        for (int day = 0; day < 60; day++) {
            Check.due("each day one way or the other", z.log(day, 0) + z.log(day, 1), 1);
        }
    }

    private static long next(long s) {
        return s * 6364136223846793005L + 1442695040888963407L;
    }

    /** A seed whose next number is s: the step turned back, going round. */
    private static long ahead(long s) {
        long inverse = 1;
        for (int i = 0; i < 6; i++) {
            inverse *= 2 - 6364136223846793005L * inverse;
        }
        return (s - 1442695040888963407L) * inverse;
    }

    /** Draws just at TEMPTED, and numbers with their highest bit set: the shift is without sign. */
    private static void draws() {
        for (int tempted = 1; tempted <= 99; tempted += 7) {
            for (int draw = tempted - 1; draw <= tempted; draw++) {
                for (long high = 0; high <= 1; high++) {
                    // Of numbers below 2 to the 31st with this rest by 100, one with the highest bit or without it.
                    long number = high * (2000000000L - 2000000000L % 100) + draw;
                    long seed = ahead(number << 33 | 12345);
                    Check.due("the seed leads to the draw", (next(seed) >>> 33) % 100, draw);
                    SwornDays x = Check.country("pw0:b;vt60");
                    x.tempted(tempted);
                    x.decades(1, seed);
                    Check.due("a draw of " + draw + " below " + tempted, x.log(0, 1), draw < tempted ? 1 : 0);
                }
            }
        }
        // The place: a draw of how long the row is, whatever it has there; seen by where the vow is broken.
        for (int size = 1; size <= 12; size++) {
            for (int place = 0; place < size; place++) {
                long second = ahead((long) (size * 1000 + place) << 33 | 99);
                long seed = ahead(second);
                boolean below = (second >>> 33) % 100 < 99;
                SwornDays x = Check.country("pw7:" + times(size, "b") + ";p:a;va7t60;ep1o0f" + place + "t" + place);
                x.tempted(99);
                x.decades(1, seed);
                Check.due("the place " + place + " of " + size, x.log(0, 2), below ? 1 : 0);
                Check.due("the row is as it was", x.person(0, 3 + place), 1);
            }
        }
    }

    // ---- acts

    /** Each act counts one, a day of several too; what is no act does not count. */
    private static void whatIsAnAct() {
        SwornDays x = Check.country("p:ab;p:c;v;vp1", "gh");
        Check.due("none at first", x.count(11), 0);
        Check.due("lives", x.lives(0, 0), 1);
        Check.due("change", x.change(0, 0, 1), 2);
        Check.due("swear", x.swear(0, 0, 1), 2);
        Check.due("acts", x.count(11), 3);
        x.pardon(0);
        Check.due("acts", x.count(11), 4);
        x.amnesty();
        Check.due("acts", x.count(11), 5);
        x.days(3);
        Check.due("acts", x.count(11), 8);
        x.decades(4, 9);
        Check.due("acts", x.count(11), 12);
        x.image();
        x.see(0, 0);
        x.tempted(5);
        Check.tell(x, 1, "y:1");
        x.taste(0);
        Check.tell(x, 2, "a");
        x.length(0);
        x.fares(1);
        Check.due("no acts", x.count(11), 12);
        for (int i = 11; i >= 0; i--) {
            Check.due("undo", x.undo(), i);
        }
        Check.due("undo", x.undo(), NONE);
        Check.due("the day", x.count(7), 0);
        Check.due("vows", x.count(1), 2);
        Check.due("row", x.person(0, 3), 0);
        Check.due("term", x.vow(0, 5), 7);
        Check.due("what is no act stays", x.count(8) + 10 * x.count(9) + 100 * x.count(3) + 1000 * x.count(4), 2115);
    }

    /** "the latest 40 can be UNDONE one by one" */
    private static void fortyActs() {
        SwornDays x = Check.country("p:a");
        for (int i = 1; i <= 45; i++) {
            Check.due("change " + i, x.change(0, 0, i % 8), i < 40 ? i : 40);
        }
        for (int i = 44; i >= 5; i--) {
            Check.due("undo", x.undo(), i - 5);
            Check.due("the deed behind change " + i, x.person(0, 3), i % 8);
        }
        Check.due("no 41st", x.undo(), NONE);
        Check.due("the deed stays", x.person(0, 3), 5);
        Check.due("acts begin anew", x.change(0, 0, 0), 1);
        SwornDays y = Check.country("p:b;vt99");
        y.days(39);
        Check.due("39", y.count(11), 39);
        y.days(1);
        Check.due("40", y.count(11), 40);
        y.days(1);
        Check.due("40 of 41", y.count(11), 40);
        y.days(60);
        Check.due("40 of 101", y.count(11), 40);
        for (int i = 39; i >= 0; i--) {
            Check.due("undo", y.undo(), i);
            Check.due("day", y.count(7), 61 + i);
            Check.due("how long the log is", y.count(10), 60);
        }
        Check.due("undo", y.undo(), NONE);
        Check.due("term", y.vow(0, 5), 38);
        // Each sort of act on top of forty.
        SwornDays w = Check.country("p:b;v;v", "c");
        w.days(40);
        Check.due("lives", w.lives(0, 0), 40);
        Check.due("change", w.change(0, 0, 3), 40);
        w.swear(0, 0, 1);
        Check.due("swear", w.count(11), 40);
        w.pardon(2);
        Check.due("pardon", w.count(11), 40);
        w.amnesty();
        Check.due("amnesty", w.count(11), 40);
        w.decades(1, 3);
        Check.due("decades", w.count(11), 40);
        for (int i = 39; i >= 0; i--) {
            Check.due("undo", w.undo(), i);
        }
        Check.due("undo", w.undo(), NONE);
        Check.due("six acts and 34 days are undone", w.count(7), 6);
        Check.due("the row", w.person(0, 3), 1);
        // Undone and done anew: what was undone does not come back.
        SwornDays z = Check.country("p:a");
        z.change(0, 0, 1);
        z.change(0, 0, 2);
        z.undo();
        Check.due("change", z.change(0, 0, 3), 2);
        z.undo();
        Check.due("the one ahead", z.person(0, 3), 1);
    }

    // ---- images

    private static void images() {
        SwornDays x = Check.country("ps2:ab;p:c;va0t3;ep1o0", "hhh");
        Check.due("no image", x.back(), NONE);
        Check.due("an image on day 0", x.image(), 0);
        x.days(60);
        x.lives(0, 0);
        x.swear(1, 1234, 8);
        Check.due("back", x.back(), 0);
        int[] due = {2, 1, 1, 0, 1, 0, NONE, 0, 0, 0, 0, 0, 1};
        for (int what = 0; what <= 12; what++) {
            Check.due("count(" + what + ")", x.count(what), due[what]);
        }
        Check.due("its row", x.person(0, 2), 2);
        Check.due("its slips", x.person(0, 1), 2);
        Check.due("its term", x.vow(0, 5), 3);
        Check.due("no log", x.log(0, 0), NONE);
        Check.due("no act can be undone", x.undo(), NONE);
        Check.due("back again, the image stays", x.back(), 0);
        x.days(2);
        Check.due("acts begin anew", x.count(11), 2);
        Check.due("back without acts between", x.back(), 0);
        x.days(1);
        Check.due("instead of the one ahead", x.image(), 1);
        Check.due("an image is no act and forgets none", x.count(11), 1);
        x.days(4);
        Check.due("back to the latest image", x.back(), 1);
        Check.due("its log", x.log(0, 1), 1);
        Check.due("how long it is", x.count(10), 1);
        // A refused text leaves the image; another country does not.
        Check.tape(x, "p:a;");
        Check.due("refused", x.text(0), NONE);
        Check.due("back", x.back(), 1);
        Check.tell(x, 1, "y:1");
        Check.tell(x, 2, "a");
        Check.due("back behind other texts", x.back(), 1);
        Check.tell(x, 0, "p:a");
        Check.due("no image of this country", x.back(), NONE);
        // The log of an image of a late day, behind many other days.
        SwornDays y = Check.country("p:b;vt70");
        y.days(60);
        y.days(15);
        y.image();
        y.days(60);
        y.days(60);
        Check.due("back", y.back(), 75);
        for (int i = 0; i < 60; i++) {
            Check.due("log(" + i + ", 0)", y.log(i, 0), i < 5 ? 0 : 1);
        }
        Check.due("log(60, 0)", y.log(60, 0), NONE);
    }

    /** HIDDEN: a vow about a vow is not kept or broken by a row, whether it is in force or not. */
    private static void brokenHidden() {
        SwornDays x = Check.country("p:a;v;vk6a0;vk7a0", "a");
        Check.due("kind 6", x.broken(0, 1), HIDDEN);
        Check.due("kind 7", x.broken(0, 2), HIDDEN);
        x.pardon(1);
        Check.due("kind 6, not in force", x.broken(0, 1), HIDDEN);
        Check.due("kind 0", x.broken(0, 0), 0);
        x.pardon(0);
        Check.due("kind 0, not in force", x.broken(0, 0), 0);
        Check.due("no such vow", x.broken(0, 3), HIDDEN);
        Check.due("no such row", x.broken(1, 0), HIDDEN);
    }

    public static void main(String[] args) {
        kindNever();
        kindOften();
        kindNotAhead();
        kindFollowed();
        kindSeldom();
        kindNotBehind();
        termsRunOut();
        termsDouble();
        slips();
        spans();
        vowsAboutVows();
        struckAndSeen();
        log();
        lives();
        change();
        swear();
        amnesty();
        pardon();
        days();
        tempted();
        draws();
        whatIsAnAct();
        fortyActs();
        images();
        brokenHidden();
        Check.end("BoundsOfDays");
    }
}
