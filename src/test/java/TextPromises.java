/** Promises 1 to 5 and 47: a new object, the tape, faults, texts, counts. */
public final class TextPromises {
    private static String repeat(String part, int times) {
        StringBuilder b = new StringBuilder();
        for (int i = 0; i < times; i++) {
            b.append(part);
        }
        return b.toString();
    }

    private static void newObject() {
        SwornDays x = new SwornDays();
        for (int what = 0; what <= 12; what++) {
            Check.due("new count(" + what + ")", x.count(what), what == 6 ? Check.NONE : 0);
        }
        Check.due("count(13)", x.count(13), Check.HIDDEN);
        Check.due("count(-1)", x.count(-1), Check.HIDDEN);
        Check.due("new back", x.back(), Check.NONE);
        Check.due("new log", x.log(0, 0), Check.NONE);
        Check.dueThrow("new person(0, 0)", x, 0, 0);
    }

    private static void feed() {
        SwornDays x = new SwornDays();
        Check.due("feed of zeros", x.feed(0, 0, 0, 0, 0), 0);
        Check.due("feed with zero bytes", x.feed(0x61006200, 0, 0x63, 0, 0x00640000), 4);
        Check.due("fault of abcd", x.fault(2), Check.NONE);
        Check.due("text of abcd", x.text(2), 0);
        Check.due("row 0 deed 0", x.row(0, 0), 0);
        Check.due("row 0 deed 3", x.row(0, 3), 3);
        Check.due("feed of high bytes", x.feed(-1, 0x80000000, 0, 0, 0), 5);
        Check.due("fault of a high byte", x.fault(2), 0);
        Check.due("235 more", Check.add(x, repeat("a", 220)), 225);
        Check.due("15 more", x.feed(0x61616161, 0x61616161, 0x61616161, 0x61616100, 0), 240);
        Check.due("one too much", x.feed(0x61000000, 0, 0, 0, 0), Check.NONE);
        Check.due("none too much", x.feed(0, 0, 0, 0, 0), 240);
        Check.due("bytes", x.count(5), 240);
        Check.due("end(239)", x.end(239), true);
        Check.due("two too much", x.feed(0x61610000, 0, 0, 0, 0), Check.NONE);
        Check.due("what is refused changes nothing", x.count(5), 239);
        Check.due("the last one", x.feed(0, 0, 0, 0, 0x61), 240);
        for (int k = 0; k < 5; k++) {
            int[] w = new int[5];
            w[k] = 0x61006161;
            x.end(238);
            Check.due("three too much in word " + k, x.feed(w[0], w[1], w[2], w[3], w[4]), Check.NONE);
            x.end(237);
            Check.due("three in word " + k, x.feed(w[0], w[1], w[2], w[3], w[4]), 240);
        }
    }

    private static void end() {
        SwornDays x = new SwornDays();
        Check.add(x, "abcz");
        Check.due("end(5)", x.end(5), false);
        Check.due("end(-1)", x.end(-1), false);
        Check.due("bytes", x.count(5), 4);
        Check.due("fault", x.fault(2), 3);
        Check.due("end(4)", x.end(4), true);
        Check.due("end(3)", x.end(3), true);
        Check.due("fault behind end", x.fault(2), Check.NONE);
        Check.due("end(4) then", x.end(4), false);
        Check.due("text", x.text(2), 0);
        Check.due("row", x.row(0, -1), 3);
        Check.due("the tape is empty", x.count(5), 0);
        Check.due("end(0)", x.end(0), true);
    }

    private static void countryFaults() {
        int none = Check.NONE;
        Check.faultDue(0, "", 0);
        Check.faultDue(0, "   ", 3);
        Check.faultDue(0, "p:a", none);
        Check.faultDue(0, "p : a b ; d ; v ", none);
        Check.faultDue(0, "p", 1);
        Check.faultDue(0, "p;", 1);
        Check.faultDue(0, "p:;", 2);
        Check.faultDue(0, "p:a;", 4);
        Check.faultDue(0, "p:a;;", 4);
        Check.faultDue(0, "p:aw1", 3);
        Check.faultDue(0, "p:a:", 3);
        Check.faultDue(0, "P:a", 0);
        Check.faultDue(0, "pw8s9:abcdefghabcd", none);
        Check.faultDue(0, "pw8s9:abcdefghabcda", 18);
        Check.faultDue(0, "pw8s9:abcdefghabc da", 19);
        Check.faultDue(0, "pw9:a", 2);
        Check.faultDue(0, "pw08:a", none);
        Check.faultDue(0, "pw09:a", 3);
        Check.faultDue(0, "pw10:a", 3);
        Check.faultDue(0, "pw008:a", 4);
        Check.faultDue(0, "pw999:a", 4);
        Check.faultDue(0, "pw1 2:a", 4);
        Check.faultDue(0, "pw1w2:a", 3);
        Check.faultDue(0, "ps10:a", 3);
        Check.faultDue(0, "pww1:a", 2);
        Check.faultDue(0, "pa1:a", 1);
        Check.faultDue(0, "pw", 2);
        Check.faultDue(0, "pw  ", 4);
        Check.faultDue(0, "d;p:a", none);
        Check.faultDue(0, "d", 1);
        Check.faultDue(0, "d:a", 1);
        Check.faultDue(0, "da8;p:a", 2);
        Check.faultDue(0, "da7j9h9;p:a", none);
        Check.faultDue(0, "dj10;p:a", 3);
        Check.faultDue(0, "dh99;p:a", 3);
        Check.faultDue(0, "da1j2a3;p:a", 5);
        Check.faultDue(0, "dw1;p:a", 1);
        Check.faultDue(0, repeat("d;", 8) + "p:a", none);
        Check.faultDue(0, repeat("d;", 9) + "p:a", 16);
        Check.faultDue(0, repeat("e;", 9) + "p:a", 16);
        Check.faultDue(0, repeat("v;", 8) + "p:a", none);
        Check.faultDue(0, repeat("v;", 9) + "p:a", 16);
        Check.faultDue(0, repeat("p:a;", 4) + "p:b", none);
        Check.faultDue(0, repeat("p:a;", 5) + "p:b", 20);
        Check.faultDue(0, "p:a;vp0k5a7b7n9t99", none);
        Check.faultDue(0, "p:a;vp5", 6);
        Check.faultDue(0, "p:a;vk8", 6);
        Check.faultDue(0, "p:a;va8", 6);
        Check.faultDue(0, "p:a;vb8", 6);
        Check.faultDue(0, "p:a;vn10", 7);
        Check.faultDue(0, "p:a;vt0", 6);
        Check.faultDue(0, "p:a;vt00", 7);
        Check.faultDue(0, "p:a;vt01", none);
        Check.faultDue(0, "p:a;vp1", 7);
        Check.faultDue(0, "vp1;p:a;p:a", none);
        Check.faultDue(0, "vk6a1;p:a", 9);
        Check.faultDue(0, "vk7a1;p:a;v", none);
        Check.faultDue(0, "vk5a1;p:a", none);
        Check.faultDue(0, "p:a;p:a;ep0o1f11t11", none);
        Check.faultDue(0, "p:a;p:a;ef12", 11);
        Check.faultDue(0, "p:a;p:a;et12", 11);
        Check.faultDue(0, "p:a;p:a;ep5", 10);
        Check.faultDue(0, "p:a;p:a;eo5", 10);
        Check.faultDue(0, "p:a;p:a;eo0", 11);
        Check.faultDue(0, "p:a;p:a;eo2", 11);
        Check.faultDue(0, "p:a;p:a;ep2", 11);
        Check.faultDue(0, "p:a;p:a;ef3t2 ", 14);
        Check.faultDue(0, "p:a;p:a;ef3t3", none);
        Check.faultDue(0, "p:a;p:a;ef3t2;x", 14);
    }

    private static void tasteFaults() {
        int none = Check.NONE;
        Check.faultDue(1, "", 0);
        Check.faultDue(1, "y", 1);
        Check.faultDue(1, "y:", 2);
        Check.faultDue(1, "j", 0);
        Check.faultDue(1, "y:j", none);
        Check.faultDue(1, " y : 12 + j * [ h - i ] / r ", none);
        Check.faultDue(1, "y:x;y:q", none);
        Check.faultDue(1, "y:j;", 4);
        Check.faultDue(1, "y:j;j", 4);
        Check.faultDue(1, "y:a", 2);
        Check.faultDue(1, "y:9999", none);
        Check.faultDue(1, "y:00001", 6);
        Check.faultDue(1, "y:1 2", 4);
        Check.faultDue(1, "y:1?2", 3);
        Check.faultDue(1, "y:1=2", 5);
        Check.faultDue(1, "y:1=2?", 6);
        Check.faultDue(1, "y:1=2?3", none);
        Check.faultDue(1, "y:1=2?3?4", 7);
        Check.faultDue(1, "y:1=2=3?4", 5);
        Check.faultDue(1, "y:1=2&3?4", 7);
        Check.faultDue(1, "y:1=2&3<4|!j>h?5", none);
        Check.faultDue(1, "y:(1=2)?3", none);
        Check.faultDue(1, "y:(1)?3", 4);
        Check.faultDue(1, "y:(1=2)", 7);
        Check.faultDue(1, "y:(1=2)=3?4", 7);
        Check.faultDue(1, "y:[1=2]", 4);
        Check.faultDue(1, "y:[1+2", 6);
        Check.faultDue(1, "y:[1]>0?2", none);
        Check.faultDue(1, "y:1+", 4);
        Check.faultDue(1, "y:-1", 2);
        Check.faultDue(1, "y:1+(2)", 4);
        Check.faultDue(1, "y:!1", 4);
        Check.faultDue(1, "y:!1=1?1", none);
        Check.faultDue(1, "y:!(1=1|2=2)&1=1?1", none);
        Check.faultDue(1, "y:[[[[[[1]]]]]]", none);
        Check.faultDue(1, "y:[[[[[[[1]]]]]]]", 8);
        Check.faultDue(1, "y:!!((![j]=1)))", 14);
        Check.faultDue(1, "y:!!((![j]=1))?1", none);
        Check.faultDue(1, "y:!!((![[j]]=1))?1", 8);
        Check.faultDue(1, "y:!!((![ [j", 9);
        Check.faultDue(1, "y:[1]+[2]*[3]=[4]&[5]<[6]|![7]>[8]?[9]", none);
        Check.faultDue(1, "y:" + (char) 233, 2);
    }

    private static void rowFaults() {
        int none = Check.NONE;
        Check.faultDue(2, "", 0);
        Check.faultDue(2, "  ", 2);
        Check.faultDue(2, " a h ", none);
        Check.faultDue(2, "ai", 1);
        Check.faultDue(2, "a;b", 1);
        Check.faultDue(2, "abcdefghabcd ", none);
        Check.faultDue(2, "abcdefghabcd e", 13);
        Check.faultDue(2, "abcdefghabcdz", 12);
    }

    private static void text() {
        SwornDays x = new SwornDays();
        Check.due("text(3)", x.text(3), Check.NONE);
        Check.due("text(-1)", x.text(-1), Check.NONE);
        Check.due("fault(-1)", x.fault(-1), -2);
        Check.due("fault(3)", x.fault(3), -2);
        for (int i = 0; i < 4; i++) {
            Check.due("taste " + i, Check.tell(x, 1, "y:" + i), i);
        }
        Check.due("a fifth taste", Check.tell(x, 1, "y:4"), Check.NONE);
        Check.due("its fault", x.fault(1), Check.NONE);
        Check.due("the tape stays", x.count(5), 3);
        for (int i = 0; i < 6; i++) {
            Check.due("row " + i, Check.tell(x, 2, repeat("c", i + 1)), i);
        }
        Check.due("a seventh row", Check.tell(x, 2, "h"), Check.NONE);
        Check.due("its fault", x.fault(2), Check.NONE);
        Check.due("tastes", x.count(3), 4);
        Check.due("rows", x.count(4), 6);
        Check.due("row 5", x.row(5, -1), 6);
        Check.due("taste(2)", x.taste(2), true);
        Check.due("tempted(7)", x.tempted(7), true);
        Check.due("country", Check.tell(x, 0, "p:ab;p:c;v;e;e"), 2);
        x.see(0, 0);
        x.image();
        x.days(3);
        Check.due("a wrong country", Check.tell(x, 0, "p:a;v;x"), Check.NONE);
        Check.due("persons stay", x.count(0), 2);
        Check.due("vows stay", x.count(1), 1);
        Check.due("day stays", x.count(7), 3);
        Check.due("acts stay", x.count(11), 3);
        Check.due("another country", Check.tell(x, 0, "p:a;p:b;p:c;v;v"), 3);
        int[] due = {3, 2, 0, 4, 6, 0, 2, 0, 7, 0, 0, 0, 2};
        for (int what = 0; what < due.length; what++) {
            Check.due("count(" + what + ") of another country", x.count(what), due[what]);
        }
        Check.due("no image of this one", x.back(), Check.NONE);
        Check.due("no act of this one", x.undo(), Check.NONE);
        Check.due("no log of this one", x.log(0, 0), Check.NONE);
    }

    private static void counts() {
        SwornDays x = Check.country("p:ab;p:c;v;vp1t9;e;e;e", "a", "b");
        Check.tell(x, 1, "y:1");
        Check.add(x, "abc");
        x.taste(0);
        x.tempted(44);
        x.see(1, 1);
        x.see(0, 1);
        x.days(2);
        x.swear(0, 0, 1);
        x.pardon(0);
        int[] due = {2, 3, 3, 1, 2, 3, 0, 2, 44, 2, 2, 4, 2};
        for (int what = 0; what < due.length; what++) {
            Check.due("count(" + what + ")", x.count(what), due[what]);
        }
    }

    public static void main(String[] args) {
        newObject();
        feed();
        end();
        countryFaults();
        tasteFaults();
        rowFaults();
        text();
        counts();
        Check.end("TextPromises");
    }
}
