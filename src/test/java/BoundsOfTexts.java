/**
 * The boundary cases of promises 1 to 12 and of part 1 of the terms: how many there can be, what each number may be,
 * what holds without, where the fault is. One check, or one loop of them, for each such sentence.
 */
public final class BoundsOfTexts {
    private static final int NONE = SwornDays.NONE;

    private BoundsOfTexts() {
    }

    /** What is read of a text that was told. */
    private interface Ask {
        int of(SwornDays x);
    }

    private static String times(int n, String part) {
        StringBuilder b = new StringBuilder();
        for (int i = 0; i < n; i++) {
            b.append(part);
        }
        return b.toString();
    }

    // ---- the tape

    private static void tape() {
        // "Twenty bytes more (of each number the highest first)"
        SwornDays x = new SwornDays();
        Check.due("twenty bytes", x.feed(0x61626364, 0x20202020, 0x65666768, 0x20202020, 0x68676665), 20);
        Check.due("as a row", x.text(2), 0);
        int[] due = {0, 1, 2, 3, 4, 5, 6, 7, 7, 6, 5, 4};
        for (int i = 0; i < 12; i++) {
            Check.due("deed " + i, x.row(0, i), due[i]);
        }
        // "bytes of 0 are left out", wherever they stand
        for (int shift = 0; shift <= 24; shift += 8) {
            for (int k = 0; k < 5; k++) {
                SwornDays y = new SwornDays();
                int[] w = new int[5];
                w[k] = 'h' << shift;
                Check.due("one byte in word " + k, y.feed(w[0], w[1], w[2], w[3], w[4]), 1);
                Check.due("it is a row", y.text(2), 0);
                Check.due("of that deed", y.row(0, 0), 7);
            }
        }
        Check.due("none but zeros", new SwornDays().feed(0, 0, 0, 0, 0), 0);
        // "how many it has": 240 at most, byte by byte at the end
        SwornDays z = new SwornDays();
        for (int i = 1; i <= 12; i++) {
            Check.due("feed " + i, z.feed(-1, -1, -1, -1, -1), 20 * i);
        }
        Check.due("the 241st byte", z.feed(0, 0, 0, 0, 1), NONE);
        Check.due("zeros on a full tape", z.feed(0, 0, 0, 0, 0), 240);
        Check.due("a byte less", z.end(239), true);
        Check.due("a byte more", z.feed(0, 0, 1, 0, 0), 240);
        Check.due("as none of the three", z.fault(0) == 0 && z.fault(1) == 0 && z.fault(2) == 0, true);
    }

    private static void end() {
        SwornDays x = new SwornDays();
        Check.due("end(0) of an empty tape", x.end(0), true);
        Check.due("end(1) of an empty tape", x.end(1), false);
        Check.add(x, "abcdefgh");
        Check.due("end of one too many", x.end(9), false);
        Check.due("end of all", x.end(8), true);
        Check.due("all are there", x.count(5), 8);
        Check.due("end of one less", x.end(7), true);
        Check.due("one is gone", x.count(5), 7);
        Check.due("it does not come back", x.end(8), false);
        Check.due("more come behind what is left", Check.add(x, "a"), 8);
        Check.due("as a row", x.text(2), 0);
        Check.due("the one behind", x.row(0, 7), 0);
        Check.add(x, "abc");
        Check.due("end(0)", x.end(0), true);
        Check.due("none is there", x.count(5), 0);
        Check.due("end below 0", x.end(-1), false);
    }

    // ---- countries: how many clauses

    private static void clauses() {
        Check.faultDue(0, "d;v;d", 5);
        for (int n = 1; n <= 5; n++) {
            String text = times(n - 1, "p:a;") + "p:h";
            Check.faultDue(0, text, NONE);
            Check.due(n + " persons", Check.country(text).count(0), n);
        }
        Check.faultDue(0, times(5, "p:a;") + "p", 20);
        Check.faultDue(0, times(5, "p:a;") + " d;v;  p:a", 27);
        String[] others = {"d", "v", "e"};
        for (int k = 0; k < 3; k++) {
            String c = others[k];
            for (int n = 0; n <= 8; n++) {
                Check.faultDue(0, "p:a;p:a" + times(n, ";" + c), NONE);
            }
            Check.faultDue(0, "p:a;p:a" + times(9, ";" + c), 24);
            Check.faultDue(0, times(4, c + ";") + "p:a;p:a" + times(5, ";" + c), 24);
            Check.faultDue(0, "p:a;p:a" + times(8, ";" + c) + " ; " + c + "z", 26);
        }
        Check.due("eight vows", Check.country("p:a" + times(8, ";v")).count(1), 8);
        Check.due("eight eyes", Check.country("p:a;p:a" + times(8, ";e")).count(2), 8);
        Check.due("no vow", Check.country("p:a").count(1), 0);
        Check.due("no eye", Check.country("p:a").count(2), 0);
        // A clause between two ; or at either end is not there.
        Check.faultDue(0, ";p:a", 0);
        Check.faultDue(0, "p:a;", 4);
        Check.faultDue(0, "p:a; ;d", 5);
        // All at once: 5, 8, 8 and 8 clauses.
        Check.faultDue(0, times(5, "p:a;") + times(8, "d;v;e;") + "d", 68);
        Check.faultDue(0, times(5, "p:a;") + times(7, "d;v;e;") + "e;v;d", NONE);
    }

    /** "in any order": 24 orders of four clauses. */
    private static void anyOrder() {
        String[] c = {"p:ab;p:c", "da2j4", "vp1a3", "ep1o0f1"};
        for (int order = 0; order < 256; order++) {
            int[] at = {order & 3, order >> 2 & 3, order >> 4 & 3, order >> 6};
            if ((1 << at[0] | 1 << at[1] | 1 << at[2] | 1 << at[3]) != 15) {
                continue;
            }
            String text = c[at[0]] + ";" + c[at[1]] + ";" + c[at[2]] + ";" + c[at[3]];
            SwornDays x = Check.country(text);
            Check.due("persons of " + text, x.count(0), 2);
            Check.due("joy of " + text, x.deed(2, 0), 4);
            Check.due("vow of " + text, x.vow(0, 0), 1);
            Check.due("eye of " + text, x.eye(0, 2), 1);
        }
    }

    // ---- countries: items

    /** Each number from 0 to 99, with one digit and with two, and with a third digit behind it. */
    private static void item(String ahead, String behind, int least, int most, int without, Ask ask) {
        for (int value = 0; value <= 99; value++) {
            String two = "" + value / 10 + value % 10;
            if (value < 10) {
                itemDue(ahead, "" + value, behind, value >= least && value <= most ? value : NONE, ask);
            }
            itemDue(ahead, two, behind, value >= least && value <= most ? value : NONE, ask);
            Check.faultDue(0, ahead + two + value % 10 + behind, ahead.length() + 2);
        }
        Check.faultDue(0, ahead + behind, ahead.length());
        Check.faultDue(0, ahead + "-1" + behind, ahead.length());
        Check.faultDue(0, ahead + " +" + behind, ahead.length() + 1);
        Check.faultDue(0, ahead, ahead.length());
        Check.due("without " + ahead, ask.of(Check.country(ahead.substring(0, ahead.length() - 1) + behind)), without);
        // A letter that was there is wrong at it, whatever its number would be.
        String letter = ahead.substring(ahead.length() - 1);
        Check.faultDue(0, ahead + most + letter + most + behind, ahead.length() + ("" + most).length());
        Check.faultDue(0, ahead + most + "  " + letter, ahead.length() + ("" + most).length() + 2);
    }

    private static void itemDue(String ahead, String number, String behind, int want, Ask ask) {
        String text = ahead + number + behind;
        if (want == NONE) {
            Check.faultDue(0, text, ahead.length() + number.length() - 1);
        } else {
            Check.faultDue(0, text, NONE);
            Check.due("read of " + text, ask.of(Check.country(text)), want);
        }
    }

    private static int wants(SwornDays x) {
        return x.person(0, 0) == NONE ? 8 : x.person(0, 0);
    }

    private static int joyTold(SwornDays x) {
        for (int d = 0; d < 8; d++) {
            if (x.deed(d, 0) == 9) {
                return d;
            }
        }
        return NONE;
    }

    private static void items() {
        String five = "p:a;p:a;p:a;p:a;p:a";
        item("pw", ":a", 0, 8, 8, BoundsOfTexts::wants);
        item("ps", ":a", 0, 9, 0, x -> x.person(0, 1));
        item("pw3s", ":a", 0, 9, 0, x -> x.person(0, 1));
        item("ps3w", ":a", 0, 8, 8, BoundsOfTexts::wants);
        item("p:a;da", "j9", 0, 7, 0, BoundsOfTexts::joyTold);
        item("p:a;dj", "", 0, 9, 1, x -> x.deed(0, 0));
        item("p:a;da7j", "h5", 0, 9, 1, x -> x.deed(7, 0));
        item("p:a;dh", ";d a1", 0, 9, 0, x -> x.deed(0, 1));
        item(five + ";vp", "", 0, 4, 0, x -> x.vow(0, 0));
        item("p:a;vk", "", 0, 7, 0, x -> x.vow(0, 1));
        item("p:a;va", "", 0, 7, 0, x -> x.vow(0, 2));
        item("p:a;vb", "", 0, 7, 1, x -> x.vow(0, 3));
        item("p:a;vn", "", 0, 9, 1, x -> x.vow(0, 4));
        item("p:a;vt", "", 1, 99, 7, x -> x.vow(0, 5));
        item("p:a;vp0k5a7b7n9t", ";v", 1, 99, 7, x -> x.vow(0, 5));
    }

    /** An eye's person and whom it is on differ, so each is asked beside one that it is not. */
    private static void eyeItems() {
        String five = ";p:a;p:a;p:a;p:a;p:a";
        for (int p = 0; p < 5; p++) {
            for (int o = 0; o < 5; o++) {
                String text = "ep" + p + "o" + o + five;
                Check.faultDue(0, text, p == o ? text.length() : NONE);
                if (p != o) {
                    SwornDays x = Check.country(text);
                    Check.due("whose of " + text, x.eye(0, 0), p);
                    Check.due("on whom of " + text, x.eye(0, 1), o);
                }
            }
        }
        for (int value = 0; value <= 99; value++) {
            String two = "" + value / 10 + value % 10;
            for (String number : value < 10 ? new String[] {"" + value, two} : new String[] {two}) {
                String other = value == 0 ? "1" : "0";
                int last = number.length() - 1;
                Check.faultDue(0, "eo" + other + "p" + number + five, value <= 4 ? NONE : 4 + last);
                Check.faultDue(0, "ep" + other + "o" + number + five, value <= 4 ? NONE : 4 + last);
            }
            Check.faultDue(0, "ep" + two + value % 10 + five, 4);
            Check.faultDue(0, "eo" + two + value % 10 + five, 4);
        }
        Check.faultDue(0, "ep5o0" + five, 2);
        Check.faultDue(0, "ep05o0" + five, 3);
        Check.faultDue(0, "ep10o0" + five, 3);
        Check.faultDue(0, "eo5" + five, 2);
        Check.faultDue(0, "eo99" + five, 3);
        Check.faultDue(0, "ep004" + five, 4);
        Check.faultDue(0, "eo004" + five, 4);
        Check.faultDue(0, "eo1o" + five, 3);
        Check.faultDue(0, "ep2p" + five, 3);
        item("p:a;p:a;ef", "", 0, 11, 0, x -> x.eye(0, 2));
        item("p:a;p:a;et", "", 0, 11, 11, x -> x.eye(0, 3));
        SwornDays x = Check.country("p:a;p:a;e");
        int[] due = {0, 1, 0, 11};
        for (int what = 0; what < 4; what++) {
            Check.due("an eye without items, " + what, x.eye(0, what), due[what]);
        }
    }

    /** Which letters a clause has: another one's letter is wrong at it. */
    private static void lettersOfClauses() {
        String[] clauses = {"p", "d", "v", "e"};
        String[] letters = {"ws", "ajh", "pkabnt", "poft"};
        for (int k = 0; k < 4; k++) {
            for (char c = 'a'; c <= 'z'; c++) {
                String text = "p:a;p:a;" + clauses[k] + c;
                Check.faultDue(0, text, letters[k].indexOf(c) >= 0 ? 10 : 9);
            }
        }
    }

    private static void latestDeed() {
        SwornDays x = Check.country("p:a;da3j5h5;da3j7;d;da3h2;dj6h6;da0");
        Check.due("joy of the latest (without: 1)", x.deed(3, 0), 1);
        Check.due("harm of the latest", x.deed(3, 1), 2);
        Check.due("joy of deed 0, told last without", x.deed(0, 0), 1);
        Check.due("harm of deed 0, told last without", x.deed(0, 1), 0);
        for (int d = 1; d < 8; d++) {
            Check.due("not told: joy", x.deed(d, 0), 1);
            Check.due("not told: harm", x.deed(d, 1), d == 3 ? 2 : 0);
        }
    }

    // ---- rows, in a country and alone

    private static void rowLengths() {
        String letters = "abcdefghhgfedcba";
        for (int n = 0; n <= 14; n++) {
            String row = letters.substring(0, n);
            int fault = n == 0 ? 0 : n <= 12 ? NONE : 12;
            Check.faultDue(2, row, fault);
            Check.faultDue(0, "p:" + row, fault == NONE ? NONE : 2 + fault);
            Check.faultDue(0, "p:" + row + ";d", fault == NONE ? NONE : 2 + fault);
            if (fault == NONE) {
                SwornDays x = Check.country("p:" + row, row);
                Check.due("a row of " + n, x.row(0, -1), n);
                Check.due("its last deed", x.row(0, n - 1), letters.charAt(n - 1) - 'a');
                Check.due("none behind it", x.row(0, n), NONE);
                Check.due("a person's row of " + n, x.person(0, 2), n);
                Check.due("its last deed", x.person(0, 2 + n), letters.charAt(n - 1) - 'a');
                Check.dueThrow("none behind it", x, 0, 3 + n);
            }
        }
        for (char c = 1; c < 256; c++) {
            boolean deed = c >= 'a' && c <= 'h';
            Check.faultDue(2, "" + c, c == ' ' || deed ? c == ' ' ? 1 : NONE : 0);
            Check.faultDue(2, "a" + c, c == ' ' || deed ? NONE : 1);
            Check.faultDue(2, "abcdefghabcd" + c, c == ' ' ? NONE : 12);
        }
    }

    // ---- blanks

    private static boolean digit(char c) {
        return c >= '0' && c <= '9';
    }

    /** "Blanks may stand between all signs of these, not within numbers": one and three at each place of each text. */
    private static void blanks() {
        String[] texts = {"pw3s2:abc;pw08:h;da7j09h1;vp1k02a3b4n5t67;ep1o0f01t11", "y:!(j=12|h<3)&[q+9999]>r?x*20-i/7;y:0",
            "abcdefgh"};
        for (int sort = 0; sort < 3; sort++) {
            String text = texts[sort];
            Check.faultDue(sort, text, NONE);
            for (int at = 0; at <= text.length(); at++) {
                boolean within = at > 0 && at < text.length() && digit(text.charAt(at - 1)) && digit(text.charAt(at));
                String ahead = text.substring(0, at);
                String behind = text.substring(at);
                Check.faultDue(sort, ahead + " " + behind, within ? at + 1 : NONE);
                Check.faultDue(sort, ahead + "   " + behind, within ? at + 3 : NONE);
                // No other sign is a blank.
                Check.faultDue(sort, ahead + "\t" + behind, at);
                Check.faultDue(sort, ahead + "_" + behind, at);
            }
            Check.faultDue(sort, times(9, " "), 9);
        }
    }

    // ---- the faults at the length

    private static void lengthFaults() {
        for (int persons = 1; persons <= 5; persons++) {
            String told = "p:a" + times(persons - 1, ";p:a");
            for (int p = 0; p < 5; p++) {
                String vow = told + ";vp" + p;
                Check.faultDue(0, vow, p < persons ? NONE : vow.length());
                Check.faultDue(0, vow + "  ", p < persons ? NONE : vow.length() + 2);
                for (int o = 0; o < 5; o++) {
                    String eye = told + ";ep" + p + "o" + o;
                    Check.faultDue(0, eye, p < persons && o < persons && p != o ? NONE : eye.length());
                }
            }
        }
        for (int vows = 1; vows <= 8; vows++) {
            for (int about = 0; about < 8; about++) {
                for (int kind = 5; kind <= 7; kind++) {
                    String text = "vk" + kind + "a" + about + times(vows - 1, ";v") + ";p:a";
                    Check.faultDue(0, text, kind == 5 || about < vows ? NONE : text.length());
                }
            }
        }
        for (int from = 0; from < 12; from++) {
            for (int to = 0; to < 12; to++) {
                String text = "p:a;ef" + from + "t" + to + ";p:a";
                Check.faultDue(0, text, from <= to ? NONE : text.length());
            }
        }
        // A text that cannot go on is wrong there, even if it is also wrong as a whole.
        Check.faultDue(0, "vp4;p:a;?", 8);
        Check.faultDue(0, "vp4;p:a?", 7);
        Check.faultDue(0, "d?", 1);
        // One that ends too early, cut at each byte.
        String whole = "pw3:ab;v;p:c";
        boolean[] ends = new boolean[whole.length() + 1];
        ends[5] = true;
        ends[6] = true;
        ends[8] = true;
        ends[12] = true;
        for (int n = 0; n <= whole.length(); n++) {
            Check.faultDue(0, whole.substring(0, n), ends[n] ? NONE : n);
        }
    }

    // ---- tastes

    private static void tasteNumbers() {
        String[] fine = {"0", "9", "00", "99", "000", "999", "0000", "9999"};
        for (String number : fine) {
            Check.faultDue(1, "y:" + number, NONE);
            worthDue("y:" + number, Integer.parseInt(number));
        }
        for (int d = 0; d < 10; d++) {
            Check.faultDue(1, "y:0000" + d, 6);
            Check.faultDue(1, "y:1+9999" + d + "9", 8);
            Check.faultDue(1, "y:j=1234" + d + "?1", 8);
        }
        for (char c = 'a'; c <= 'z'; c++) {
            Check.faultDue(1, "y:" + c, "jhirxq".indexOf(c) >= 0 ? NONE : 2);
        }
        // A number as a lone sum has no sign ahead of it.
        Check.faultDue(1, "y:-1", 2);
        Check.faultDue(1, "y:+1", 2);
    }

    private static void tasteClauses() {
        Check.faultDue(1, "", 0);
        Check.faultDue(1, "y:1", NONE);
        Check.faultDue(1, "y:1;", 4);
        Check.faultDue(1, ";y:1", 0);
        Check.faultDue(1, times(59, "y:1;") + "y:1", NONE);
        Check.faultDue(1, times(60, "y:1;"), 240);
        Check.faultDue(1, "y:(j=1)", 7);
        Check.faultDue(1, "y:!j=1", 6);
        Check.faultDue(1, "y:(j)", 4);
        Check.faultDue(1, "y:!j", 4);
        Check.faultDue(1, "y:!j?1", 4);
        Check.faultDue(1, "y:(j+1)*2", 6);
        Check.faultDue(1, "y:j=1?", 6);
        Check.faultDue(1, "y:j=1?j=1", 7);
        Check.faultDue(1, "y:j=1?!j", 6);
        Check.faultDue(1, "y:j=1?(j)", 6);
        Check.faultDue(1, "y:?1", 2);
        Check.faultDue(1, "y:j=?1", 4);
        Check.faultDue(1, "y:j|h=1?1", 3);
        Check.faultDue(1, "y:j=1|?1", 6);
        Check.faultDue(1, "y:j=1&&j=1?1", 6);
        Check.faultDue(1, "y:[]", 3);
        Check.faultDue(1, "y:()?1", 3);
    }

    /** "At most six of ( [ ! within one another"; the seventh is wrong at it, whatever the others are. */
    private static void nesting() {
        for (int set = 0; set < 64; set++) {
            StringBuilder opened = new StringBuilder();
            StringBuilder closed = new StringBuilder();
            for (int i = 0; i < 6; i++) {
                boolean bracket = (set >> i & 1) == 0;
                opened.append(bracket ? '(' : '!');
                closed.append(bracket ? ")" : "");
            }
            String deep = "y:" + opened;
            Check.faultDue(1, deep + "j=1" + closed + "?1", NONE);
            for (char seventh : new char[] {'(', '[', '!'}) {
                Check.faultDue(1, deep + seventh, 8);
                Check.faultDue(1, deep + " " + seventh + "j", 9);
            }
        }
        for (int n = 0; n <= 6; n++) {
            String deep = times(6 - n, "!") + times(n, "[") + "j" + times(n, "]");
            Check.faultDue(1, "y:" + deep + "=1?1", NONE);
            String right = times(6 - n, "(") + "j=" + times(n, "[") + "j" + times(n, "]") + times(6 - n, ")");
            Check.faultDue(1, "y:" + right + "?" + times(6, "[") + "j" + times(6, "]"), NONE);
            Check.faultDue(1, "y:" + times(6 - n, "!") + times(n + 1, "["), 8);
        }
        Check.faultDue(1, "y:" + times(6, "[") + "j" + times(6, "]"), NONE);
        Check.faultDue(1, "y:" + times(7, "["), 8);
        Check.faultDue(1, "y:j=1?" + times(7, "["), 12);
        // Beside one another they do not count together.
        String six = times(6, "[") + "1" + times(6, "]");
        Check.faultDue(1, "y:" + six + "+" + six + "*" + six, NONE);
        String closed = times(6, "(") + "1=1" + times(6, ")");
        Check.faultDue(1, "y:" + closed + "&" + closed + "|" + times(6, "!") + "1=1?" + six, NONE);
    }

    private static void worthDue(String taste, int want) {
        SwornDays x = Check.country("p:a", "a");
        Check.due("taste " + taste, Check.tell(x, 1, taste), 0);
        x.taste(0);
        Check.due("worth by " + taste, x.joy(0, 0), want);
    }

    /** "Behind each sign numbers are within -1,000,000 .. 1,000,000": 1,000,000 is 1000*1000, and one more is not. */
    private static void worths() {
        String most = "1000*1000";
        worthDue("y:[" + most + "]/1000", 1000);
        worthDue("y:" + most + "+1-9999*100", 100);
        worthDue("y:" + most + "-1-9999*100", 99);
        worthDue("y:" + most + "-9999*100", 100);
        worthDue("y:0-" + most + "-1+9999*100", -100);
        worthDue("y:0-" + most + "+1+9999*100", -99);
        worthDue("y:1001*1000-9999*100", 100);
        worthDue("y:[0-1001]*1000+9999*100", -100);
        worthDue("y:[0-1001]*[0-1000]-9999*100", 100);
        worthDue("y:9999*9999*9999*9999*9999/1000", 1000);
        worthDue("y:[0-9999]*9999*9999*9999*9999/1000", -1000);
        worthDue("y:[" + most + "]*[" + most + "]/1000", 1000);
        worthDue("y:[" + most + "]*[0-" + most + "]/1000", -1000);
        worthDue("y:[" + most + "+" + most + "]-" + most, 0);
        worthDue("y:" + most + "+1=" + most + "?3", 3);
        worthDue("y:0-" + most + "-1<0-" + most + "?3;y:4", 4);
        // "/ cuts towards 0, by 0 gives 0"
        worthDue("y:7/2", 3);
        worthDue("y:[0-7]/2", -3);
        worthDue("y:7/[0-2]", -3);
        worthDue("y:[0-7]/[0-2]", 3);
        worthDue("y:1/2", 0);
        worthDue("y:[0-1]/2", 0);
        worthDue("y:0/5", 0);
        worthDue("y:5/0", 0);
        worthDue("y:[0-5]/0+2", 2);
        worthDue("y:0/0+3", 3);
        worthDue("y:9/[1-1]*7+1", 1);
        // "the SUM of the first CLAUSE whose CONDITION holds (or has none), 0 without"
        worthDue("y:1=2?5", 0);
        worthDue("y:1=2?5;y:2=3?6", 0);
        worthDue("y:1=2?5;y:6", 6);
        worthDue("y:1=1?5;y:6", 5);
        worthDue("y:5;y:1=1?6", 5);
        worthDue("y:1=2?5;y:1=1?6;y:1=1?7", 6);
        // Equal numbers are neither < nor >.
        worthDue("y:4<4?5;y:4>4?6;y:7", 7);
        worthDue("y:3<4?5;y:7", 5);
        worthDue("y:4>3?5;y:7", 5);
        // & binds more than |, ! binds the one unit behind it.
        worthDue("y:1=1|1=1&1=2?5;y:7", 5);
        worthDue("y:(1=1|1=1)&1=2?5;y:7", 7);
        worthDue("y:!1=2&1=2?5;y:7", 7);
        worthDue("y:!(1=2&1=2)?5;y:7", 5);
        worthDue("y:!1=1|1=1?5;y:7", 5);
        worthDue("y:!!!!!!1=1?5;y:7", 5);
        worthDue("y:!!!!!1=1?5;y:7", 7);
    }

    // ---- text

    private static void howManyTexts() {
        SwornDays x = new SwornDays();
        for (int i = 0; i < 4; i++) {
            Check.due("taste " + i, Check.tell(x, 1, "y:" + (i + 1)), i);
            Check.due("tastes", x.count(3), i + 1);
            Check.due("the tape is empty then", x.count(5), 0);
        }
        Check.due("a fifth taste", Check.tell(x, 1, "y:9"), NONE);
        Check.due("four stay", x.count(3), 4);
        Check.due("the tape stays", x.count(5), 3);
        for (int i = 0; i < 6; i++) {
            Check.due("row " + i, Check.tell(x, 2, times(i + 1, "a")), i);
            Check.due("rows", x.count(4), i + 1);
            Check.due("the tape is empty then", x.count(5), 0);
        }
        Check.due("a seventh row", Check.tell(x, 2, "hhhhhhhh"), NONE);
        Check.due("six stay", x.count(4), 6);
        Check.due("the sixth stays", x.row(5, -1), 6);
        Check.due("there is no seventh", x.row(6, -1), NONE);
        Check.due("a country still can be told", Check.tell(x, 0, "p:a;p:b"), 2);
        Check.due("the tape is empty then", x.count(5), 0);
        for (int i = 0; i < 4; i++) {
            Check.due("taste(" + i + ")", x.taste(i), true);
            Check.due("its joy", x.joy(0, 0), i + 1);
        }
        Check.due("there is no fifth taste", x.taste(4), false);
        Check.due("a fault with a full table of tastes", faultOf(x, 1, "y:1+"), 4);
        Check.due("a fault with a full table of rows", faultOf(x, 2, "abz"), 2);
        Check.due("the fourth stays", x.joy(0, 0), 4);
        Check.due("the sixth stays", x.row(5, 5), 0);
        Check.due("an empty tape is no country", emptyText(0), NONE);
        Check.due("an empty tape is no taste", emptyText(1), NONE);
        Check.due("an empty tape is no row", emptyText(2), NONE);
    }

    private static int faultOf(SwornDays x, int sort, String text) {
        Check.tape(x, text);
        return x.fault(sort);
    }

    private static int emptyText(int sort) {
        return new SwornDays().text(sort);
    }

    /** "(DAY 0; all that was of another one is gone but TASTES, which holds, ROWS told, TEMPTED)" */
    private static void anotherCountry() {
        SwornDays x = Check.country("pw1s5:abc;p:d;p:e;da4j9h9;v;vp1t33;vp2;e;ep1o0", "ab", "cd");
        Check.tell(x, 1, "y:3");
        Check.tell(x, 1, "y:5");
        x.taste(1);
        x.tempted(77);
        x.swear(0, 1234, 50);
        x.days(3);
        x.image();
        x.lives(0, 1);
        x.see(0, 0);
        x.see(2, 1);
        Check.due("another", Check.tell(x, 0, "p:h;p:g;v"), 2);
        int[] due = {2, 1, 0, 2, 2, 0, 1, 0, 77, 0, 0, 0, 1};
        for (int what = 0; what <= 12; what++) {
            Check.due("count(" + what + ")", x.count(what), due[what]);
        }
        Check.due("its row", x.person(0, 3), 7);
        Check.due("how long it is", x.person(0, 2), 1);
        Check.due("it wants nothing", x.person(0, 0), NONE);
        Check.due("no slips", x.person(0, 1), 0);
        Check.dueThrow("no third person", x, 2, 0);
        Check.due("joy as without", x.deed(4, 0), 1);
        Check.due("harm as without", x.deed(4, 1), 0);
        Check.due("its vow", x.vow(0, 5), 7);
        Check.due("no other vow", x.vow(1, 0), NONE);
        Check.due("no eye", x.eye(0, 0), NONE);
        Check.due("no log", x.log(0, 0), NONE);
        Check.due("no act", x.undo(), NONE);
        Check.due("no image of this country", x.back(), NONE);
        Check.due("no day seen", x.promised(0, -1), 240);
        Check.due("the rows told stay", x.row(1, 1), 3);
        Check.due("the taste that holds stays", x.joy(0, 0), 10);
        Check.due("an image of this one", x.image(), 0);
        Check.due("comes back", x.back(), 0);
        Check.due("the same text once more is another country", Check.tell(x, 0, "p:h;p:g;v"), 2);
        Check.due("without an image", x.back(), NONE);
        Check.tape(x, "p:h;");
        Check.due("one with a fault is refused", x.text(0), NONE);
        Check.due("the one that was stays", x.count(0), 2);
    }

    public static void main(String[] args) {
        tape();
        end();
        clauses();
        anyOrder();
        items();
        eyeItems();
        lettersOfClauses();
        latestDeed();
        rowLengths();
        blanks();
        lengthFaults();
        tasteNumbers();
        tasteClauses();
        nesting();
        worths();
        howManyTexts();
        anotherCountry();
        Check.end("BoundsOfTexts");
    }
}
