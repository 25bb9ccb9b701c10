/** Promises 24 to 44: rows under vows, joys, sentences, eyes, seen days, the whole country. */
public final class RowPromises {
    private static void can() {
        SwornDays x = Check.country("p:a;p:b;va0;vk1a1n2;vk6a0;vp1k3a2b3");
        Check.due("can(0, 1, -1)", x.can(0, 1, -1), 0);
        Check.due("can(0, 1, 0)", x.can(0, 1, 0), Check.NONE);
        Check.due("can(0, 2, -1)", x.can(0, 2, -1), 1);
        Check.due("can(0, 2, 0)", x.can(0, 2, 0), 11);
        Check.due("can(0, 3, -1)", x.can(0, 3, -1), 19);
        Check.due("can(0, 3, 0)", x.can(0, 3, 0), 111);
        Check.due("can(0, 3, 1)", x.can(0, 3, 1), 112);
        Check.due("can(0, 3, 18)", x.can(0, 3, 18), 711);
        Check.due("can(0, 3, 19)", x.can(0, 3, 19), Check.NONE);
        Check.due("can(0, 3, -2)", x.can(0, 3, -2), Check.NONE);
        Check.due("can(1, 1, -1)", x.can(1, 1, -1), 7);
        Check.due("can(1, 2, -1)", x.can(1, 2, -1), 50);
        Check.due("can(1, 2, 0)", x.can(1, 2, 0), 0);
        Check.due("can(0, 0, -1)", x.can(0, 0, -1), Check.NONE);
        Check.due("can(0, 6, -1)", x.can(0, 6, -1), Check.NONE);
        Check.due("can(2, 1, -1)", x.can(2, 1, -1), Check.NONE);
        Check.due("can(-1, 1, -1)", x.can(-1, 1, -1), Check.NONE);
        x.pardon(0);
        x.pardon(1);
        Check.due("all rows of 5", x.can(0, 5, -1), 32768);
        Check.due("the last row of 5", x.can(0, 5, 32767), 77777);
        Check.due("none behind it", x.can(0, 5, 32768), Check.NONE);
    }

    private static void strike() {
        // 0: no a; 1: two a or more; 2: no b; 3: a b at least.
        SwornDays x = Check.country("p:a;p:b;va0;vk1a0n2;va1;vk1a1n1;vp1;vk7a0");
        Check.due("strike(0, 1)", x.strike(0, 1), 2 + 4);
        Check.due("strike(0, 2)", x.strike(0, 2), 2 + 4);
        Check.due("strike(1, 1)", x.strike(1, 1), 0);
        x.pardon(2);
        Check.due("strike(0, 2)", x.strike(0, 2), 2);
        Check.due("strike(0, 3)", x.strike(0, 3), 1);
        Check.due("strike(2, 1)", x.strike(2, 1), Check.NONE);
        Check.due("strike(-1, 1)", x.strike(-1, 1), Check.NONE);
        Check.due("strike(0, 0)", x.strike(0, 0), Check.NONE);
        Check.due("strike(0, 6)", x.strike(0, 6), Check.NONE);
    }

    private static void together() {
        SwornDays x = Check.country("p:a;p:b;p:c;va0;vp1a1;vp2k1a0n1");
        Check.due("together(0, 1, 1)", x.together(0, 1, 1), 6);
        Check.due("together(1, 0, 2)", x.together(1, 0, 2), 36);
        Check.due("together(0, 2, 3)", x.together(0, 2, 3), 0);
        Check.due("together(1, 2, 1)", x.together(1, 2, 1), 1);
        Check.due("together(0, 0, 1)", x.together(0, 0, 1), 7);
        Check.due("together(0, 3, 1)", x.together(0, 3, 1), Check.NONE);
        Check.due("together(3, 0, 1)", x.together(3, 0, 1), Check.NONE);
        Check.due("together(0, -1, 1)", x.together(0, -1, 1), Check.NONE);
        Check.due("together(0, 1, 0)", x.together(0, 1, 0), Check.NONE);
        Check.due("together(0, 1, 6)", x.together(0, 1, 6), Check.NONE);
    }

    private static void joyDue(String taste, String row, int want) {
        SwornDays x = Check.country("p:a;p:b;da0j3h2;da1j5h7;da2j0h9", row);
        Check.tell(x, 1, taste);
        Check.due("taste " + taste, x.taste(0), true);
        Check.due("joy of " + row + " by " + taste, x.joy(1, 0), want);
    }

    private static void joy() {
        SwornDays x = Check.country("p:a;p:b;da0j3h2;da1j5h7", "aabh");
        Check.due("joy(0, 0)", x.joy(0, 0), 12);
        Check.due("joy(1, 0)", x.joy(1, 0), 12);
        Check.due("joy(2, 0)", x.joy(2, 0), Check.HIDDEN);
        Check.due("joy(-1, 0)", x.joy(-1, 0), Check.HIDDEN);
        Check.due("joy(0, 1)", x.joy(0, 1), Check.HIDDEN);
        Check.due("joy(0, -1)", x.joy(0, -1), Check.HIDDEN);
        joyDue("y:j", "abc", 8);
        joyDue("y:h", "abc", 18);
        joyDue("y:i", "abcd", 6);
        joyDue("y:r", "ababa", 0 + 0 + 1 + 1 + 2);
        joyDue("y:x", "abch", 10);
        joyDue("y:q", "abch", 4);
        joyDue("y:2+3*4", "a", 14);
        joyDue("y:[2+3]*4", "a", 20);
        joyDue("y:7-2-1", "a", 4);
        joyDue("y:7/2*2", "a", 6);
        joyDue("y:[0-7]/2", "a", -3);
        joyDue("y:7/0+1", "a", 1);
        joyDue("y:[7/0]*5+h/[q-1]", "a", 0);
        joyDue("y:9999", "a", 9999);
        joyDue("y:9999", "aa", 9999);
        joyDue("y:0-9999", "aaa", -9999);
        joyDue("y:i=0?9999;y:i=1?9999;y:0-9998", "abc", 9999);
        joyDue("y:i=0?9999;y:i=1?9999;y:0-9999-2", "abc", 9997);
        joyDue("y:9999*9999-9999*100-99*1", "a", 1);
        joyDue("y:[0-9999]*9999+9999*100+99*1", "a", -1);
        joyDue("y:[9999*9999*9999-9999*9999]+7", "a", 7);
        joyDue("y:[9999*101+9999]/1000", "a", 1000);
        joyDue("y:[0-9999*100-9999]/1000", "a", -1000);
        joyDue("y:x=1?5", "abb", 10);
        joyDue("y:x=1?5;y:7", "abb", 17);
        joyDue("y:x<1?5;y:x>1?7", "abc", 12);
        joyDue("y:!x=1?5;y:3", "abc", 13);
        joyDue("y:x=1|x=2&i=0?5", "abc", 5);
        joyDue("y:(x=1|x=2)&i=0?5", "abc", 0);
        joyDue("y:x=1&i=1|x=2&i=2?5", "abc", 10);
        joyDue("y:!(x=1|x=2)?5;y:!!x=2?8", "abc", 13);
        joyDue("y:j+h>9?1;y:j*h<1?2;y:100", "abc", 100 + 1 + 2);
        joyDue("y:5;y:9", "ab", 10);
        joyDue("y:r>0?0-9;y:j", "aab", 3 - 9 + 5);
    }

    private static void bestAndCost() {
        SwornDays x = Check.country("p:a;p:b;da2j5;da6j5;da3j4;va2;va6;vp1k1a0n2");
        Check.due("best(0, 2, 0)", x.best(0, 2, 0), 33);
        Check.due("best(0, 2, 1)", x.best(0, 2, 1), 8);
        Check.due("cost(0, 2)", x.cost(0, 2), 2);
        Check.due("best(1, 1, 0)", x.best(1, 1, 0), Check.HIDDEN);
        Check.due("best(1, 1, 1)", x.best(1, 1, 1), Check.HIDDEN);
        Check.due("cost(1, 1)", x.cost(1, 1), Check.HIDDEN);
        Check.due("best(1, 3, 0)", x.best(1, 3, 0), 2);
        Check.due("best(1, 3, 1)", x.best(1, 3, 1), 7);
        Check.due("cost(1, 3)", x.cost(1, 3), 8);
        Check.due("best(1, 5, 0)", x.best(1, 5, 0), 222);
        Check.due("best(0, 1, 2)", x.best(0, 1, 2), Check.HIDDEN);
        Check.due("best(0, 1, -1)", x.best(0, 1, -1), Check.HIDDEN);
        Check.due("best(0, 0, 0)", x.best(0, 0, 0), Check.HIDDEN);
        Check.due("best(0, 6, 0)", x.best(0, 6, 0), Check.HIDDEN);
        Check.due("best(2, 1, 0)", x.best(2, 1, 0), Check.HIDDEN);
        Check.due("cost(2, 1)", x.cost(2, 1), Check.HIDDEN);
        Check.due("cost(0, 0)", x.cost(0, 0), Check.HIDDEN);
        Check.due("cost(0, 6)", x.cost(0, 6), Check.HIDDEN);
        Check.tell(x, 1, "y:r>0?0-j;y:j*[i+1]");
        x.taste(0);
        // Of c, g, d behind one another: the dearest last.
        Check.due("best by a taste", x.best(0, 2, 0), 3);
        Check.due("best by a taste", x.best(0, 2, 1), 1 + 8);
        Check.due("cost by a taste", x.cost(0, 2), 15 - 9);
    }

    private static void sentence() {
        SwornDays x = Check.country("p:a;da2j5h3;da5j4;va5");
        Check.due("sentence(0, 2, 1, 0)", x.sentence(0, 2, 1, 0), 200);
        Check.due("sentence(0, 2, 1, 1)", x.sentence(0, 2, 1, 1), 4);
        Check.due("a deed not in the best row", x.sentence(0, 1, 1, 0), 0);
        Check.due("its joy", x.sentence(0, 1, 1, 1), 5);
        Check.due("sentence(0, 8, 1, 0)", x.sentence(0, 8, 1, 0), Check.HIDDEN);
        Check.due("sentence(0, -1, 1, 0)", x.sentence(0, -1, 1, 0), Check.HIDDEN);
        Check.due("sentence(1, 0, 1, 0)", x.sentence(1, 0, 1, 0), Check.HIDDEN);
        Check.due("sentence(-1, 0, 1, 0)", x.sentence(-1, 0, 1, 0), Check.HIDDEN);
        Check.due("sentence(0, 0, 0, 0)", x.sentence(0, 0, 0, 0), Check.HIDDEN);
        Check.due("sentence(0, 0, 4, 0)", x.sentence(0, 0, 4, 0), Check.HIDDEN);
        Check.due("sentence(0, 0, 1, 2)", x.sentence(0, 0, 1, 2), Check.HIDDEN);
        Check.due("sentence(0, 0, 1, -1)", x.sentence(0, 0, 1, -1), Check.HIDDEN);
    }

    private static void loopholesAndHarm() {
        SwornDays x = Check.country("p:a;da1h4;da2h9;da3h5;va2;vk4a1n1", "bcd", "aaa");
        Check.due("loopholes(0, 2, 9, -1)", x.loopholes(0, 2, 9, -1), 3);
        Check.due("loopholes(0, 2, 9, 0)", x.loopholes(0, 2, 9, 0), 13);
        Check.due("loopholes(0, 2, 9, 1)", x.loopholes(0, 2, 9, 1), 31);
        Check.due("loopholes(0, 2, 9, 2)", x.loopholes(0, 2, 9, 2), 33);
        Check.due("loopholes(0, 2, 9, 3)", x.loopholes(0, 2, 9, 3), Check.NONE);
        Check.due("loopholes(0, 2, 9, -2)", x.loopholes(0, 2, 9, -2), Check.NONE);
        Check.due("loopholes(0, 2, 0, -1)", x.loopholes(0, 2, 0, -1), 48);
        Check.due("loopholes(0, 5, 99, -1)", x.loopholes(0, 5, 99, -1), 0);
        Check.due("loopholes(0, 2, 100, -1)", x.loopholes(0, 2, 100, -1), Check.NONE);
        Check.due("loopholes(0, 2, -1, -1)", x.loopholes(0, 2, -1, -1), Check.NONE);
        Check.due("loopholes(1, 2, 0, -1)", x.loopholes(1, 2, 0, -1), Check.NONE);
        Check.due("loopholes(0, 0, 0, -1)", x.loopholes(0, 0, 0, -1), Check.NONE);
        Check.due("loopholes(0, 6, 0, -1)", x.loopholes(0, 6, 0, -1), Check.NONE);
        Check.due("harm(0)", x.harm(0), 18);
        Check.due("harm(1)", x.harm(1), 0);
        Check.due("harm(2)", x.harm(2), Check.NONE);
        Check.due("harm(-1)", x.harm(-1), Check.NONE);
        SwornDays y = new SwornDays();
        Check.tell(y, 2, "a");
        Check.due("harm without a country", y.harm(0), Check.NONE);
    }

    private static void eyes() {
        SwornDays x = Check.country("p:abcdef;p:a;p:abc;ep1o0f1t2;ep2o0f2t3;ep1o0f3t3;eo2f1t11;ep2o0f1t1;ep2o0f2t2");
        Check.due("safe(0)", x.safe(0), 1 + 16 + 32);
        Check.due("safe(1)", x.safe(1), 1);
        Check.due("safe(2)", x.safe(2), 1);
        Check.due("safe(3)", x.safe(3), Check.NONE);
        Check.due("safe(-1)", x.safe(-1), Check.NONE);
        Check.due("cover(0)", x.cover(0), 1 + 2);
        Check.due("cover(1)", x.cover(1), 0);
        Check.due("cover(2)", x.cover(2), 8);
        Check.due("cover(3)", x.cover(3), Check.NONE);
        Check.due("cover(-1)", x.cover(-1), Check.NONE);
        SwornDays y = Check.country("p:a;p:a;ep1o0t3;ep1o0f2t5;ep1o0f4t5;ep1o0t5;ep1o0t5");
        Check.due("one eye that spans all", y.cover(0), 8);
    }

    private static void bold() {
        SwornDays x = Check.country("pw2:aab;p:a;pw0:aa;da2j9;ep1o0f0t1");
        Check.due("bold(0, 0, 0)", x.bold(0, 0, 0), 0);
        Check.due("bold(0, 0, 1)", x.bold(0, 0, 1), 11);
        Check.due("bold(0, 1, 0)", x.bold(0, 1, 0), 2);
        Check.due("bold(0, 99, 1)", x.bold(0, 99, 1), 11);
        Check.due("bold(1, 0, 0)", x.bold(1, 0, 0), Check.HIDDEN);
        Check.due("bold(2, 99, 0)", x.bold(2, 99, 0), 0);
        Check.due("bold(2, 99, 1)", x.bold(2, 99, 1), 2);
        Check.due("bold(3, 0, 0)", x.bold(3, 0, 0), Check.HIDDEN);
        Check.due("bold(-1, 0, 0)", x.bold(-1, 0, 0), Check.HIDDEN);
        Check.due("bold(0, 100, 0)", x.bold(0, 100, 0), Check.HIDDEN);
        Check.due("bold(0, -1, 0)", x.bold(0, -1, 0), Check.HIDDEN);
        Check.due("bold(0, 0, 2)", x.bold(0, 0, 2), Check.HIDDEN);
        Check.due("bold(0, 0, -1)", x.bold(0, 0, -1), Check.HIDDEN);
        Check.due("the row stays", x.person(0, 3), 0);
        Check.tell(x, 1, "y:0-9999");
        x.taste(0);
        x.change(0, 2, 0);
        Check.tell(x, 0, "pw2:a;p:b;ep1o0");
        Check.due("below the least joy", x.bold(0, 99, 1), -9999 - 99);
    }

    private static void fails() {
        SwornDays x = Check.country("p:abc;p:abc;p:abc;va2;va1;vk1a1n5;vk4a1n0;vp1a2;vp1k7a0;vp2a3");
        Check.due("fails(0, 0)", x.fails(0, 0), 1);
        Check.due("fails(0, 1)", x.fails(0, 1), 1);
        Check.due("fails(1, 0)", x.fails(1, 0), 4);
        Check.due("fails(1, 1)", x.fails(1, 1), 2);
        Check.due("fails(2, 0)", x.fails(2, 0), Check.NONE);
        Check.due("fails(2, 1)", x.fails(2, 1), Check.NONE);
        Check.due("fails(3, 0)", x.fails(3, 0), Check.NONE);
        Check.due("fails(0, 2)", x.fails(0, 2), Check.NONE);
        Check.due("fails(0, -1)", x.fails(0, -1), Check.NONE);
        Check.due("easy", x.easy(), 4);
        x.pardon(1);
        Check.due("fails(0, 0)", x.fails(0, 0), 3);
        x.pardon(4);
        Check.due("fails(1, 0)", x.fails(1, 0), Check.NONE);
        Check.due("easy", x.easy(), 2 + 4);
    }

    private static void length() {
        SwornDays x = Check.country("p:a;ps2:b;p:c;va1t99;vp1a1t3;vp2;vp2a3t5;ep0o1");
        Check.due("length(0)", x.length(0), 99);
        Check.due("length(1)", x.length(1), Check.NONE);
        Check.due("length(2)", x.length(2), 7);
        Check.due("length(3)", x.length(3), Check.NONE);
        Check.due("length(-1)", x.length(-1), Check.NONE);
        Check.due("nothing has gone by", x.count(7), 0);
        Check.due("slips stay", x.person(1, 1), 2);
        Check.due("terms stay", x.vow(0, 5), 99);
        Check.due("left(0)", x.left(0), 99);
        Check.due("left(2)", x.left(2), 12);
        Check.due("left(3)", x.left(3), Check.NONE);
        Check.due("left(-1)", x.left(-1), Check.NONE);
        x.pardon(0);
        Check.due("length(0)", x.length(0), 0);
        Check.due("left(0)", x.left(0), 0);
        // Vow 1 says that vow 0 is broken: for 60 days that is not so, and its term doubles up to 999.
        SwornDays y = Check.country("p:a;p:b;va1t60;vp1k7a0t99");
        Check.due("a hundred days and more", y.length(1), Check.NONE);
        // Vow 0 runs out behind three days and counts as kept then.
        SwornDays z = Check.country("p:a;p:b;va1t3;vp1k6a0t9;vp1k7a3;vp1k6a2");
        Check.due("a paradox ends vows about vows at once", z.length(1), 1);
        SwornDays w = Check.country("p:a;p:b;va1t3;vp1k6a0t9");
        Check.due("kept nine times", w.length(1), 9);
        Check.due("left(1)", w.left(1), 9);
    }

    private static void seenDays() {
        SwornDays x = Check.country("p:a;p:b;va0", "ab", "cd", "aab", "hhh");
        Check.due("promised of none", x.promised(0, -1), 240);
        Check.due("the first", x.promised(0, 0), 0);
        Check.due("the last", x.promised(0, 239), 5760);
        Check.due("none behind it", x.promised(0, 240), Check.NONE);
        Check.due("see(0, 0)", x.see(0, 0), 1);
        Check.due("see(1, 3)", x.see(1, 3), 2);
        Check.due("see(2, 0)", x.see(2, 0), Check.NONE);
        Check.due("see(0, 4)", x.see(0, 4), Check.NONE);
        Check.due("see(-1, 0)", x.see(-1, 0), Check.NONE);
        Check.due("see(0, -1)", x.see(0, -1), Check.NONE);
        Check.due("promised of ab", x.promised(0, -1), 187);
        Check.due("the first", x.promised(0, 0), 200);
        Check.due("behind kind 0", x.promised(0, 6), 1000);
        Check.due("a once", x.promised(0, 7), 1001);
        Check.due("b none", x.promised(0, 8), 1100);
        Check.due("promised(0, -2)", x.promised(0, -2), Check.NONE);
        Check.due("promised(2, -1)", x.promised(2, -1), Check.NONE);
        Check.due("tells(0, 0)", x.tells(0, 0), 0);
        // aab breaks of these: a once at most; behind each a comes b; a not behind a is none of them.
        Check.due("tells(0, 2)", x.tells(0, 2), 2);
        Check.due("tells(0, 4)", x.tells(0, 4), Check.NONE);
        Check.due("tells(2, 0)", x.tells(2, 0), Check.NONE);
        Check.due("tells(0, -1)", x.tells(0, -1), Check.NONE);
        for (int i = 3; i <= 8; i++) {
            Check.due("see " + i, x.see(0, 2), i);
        }
        Check.due("a ninth", x.see(1, 0), Check.NONE);
        Check.due("no act", x.count(11), 0);
        Check.due("tempting(2)", x.tempting(2), Check.NONE);
        SwornDays y = Check.country("p:a");
        Check.due("tempting without rows", y.tempting(0), Check.NONE);
        SwornDays z = Check.country("p:a", "a", "abcdefghabcd", "abcdefghabcd");
        int[] broken = {z.tells(0, 0), z.tells(0, 1)};
        int nearer = Math.abs(240 - 2 * broken[0]) <= Math.abs(240 - 2 * broken[1]) ? 0 : 1;
        Check.due("tempting", z.tempting(0), nearer);
        Check.due("which is the second", nearer, 1);
    }

    private static void huts() {
        SwornDays x = Check.country("p:a;p:b;p:c;p:d;va1;vp1k1a1n1;vp2k1a1n0;vp3k1a1n2;vp3a2;vp2k1a2n3;vp1k1a5;va5t1");
        Check.due("huts(-1)", x.huts(-1), 3);
        Check.due("huts(0)", x.huts(0), 1);
        Check.due("huts(1)", x.huts(1), 3);
        Check.due("huts(2)", x.huts(2), 23);
        Check.due("huts(3)", x.huts(3), Check.NONE);
        Check.due("huts(-2)", x.huts(-2), Check.NONE);
        x.pardon(0);
        Check.due("huts(-1)", x.huts(-1), 2);
        Check.due("huts(0)", x.huts(0), 1);
        x.pardon(7);
        Check.due("huts(-1)", x.huts(-1), 1);
        SwornDays y = Check.country("p:a;p:b;va1;vk1a1");
        Check.due("one against itself is no pair", y.huts(-1), 0);
    }

    public static void main(String[] args) {
        can();
        strike();
        together();
        joy();
        bestAndCost();
        sentence();
        loopholesAndHarm();
        eyes();
        bold();
        fails();
        length();
        seenDays();
        huts();
        Check.end("RowPromises");
    }
}
