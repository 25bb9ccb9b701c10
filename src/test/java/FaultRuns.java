import java.util.ArrayDeque;
import java.util.ArrayList;
import java.util.Deque;
import java.util.LinkedHashSet;
import java.util.List;
import java.util.Random;
import java.util.Set;

/**
 * Faults of drawn texts. For tastes and rows the due answer comes from the grammar itself: all that may still follow
 * is held as a set of stacks of symbols, and the fault is the byte behind which the set is empty. For countries a
 * number is taken as one sign first, as the document has its faults apart.
 */
public final class FaultRuns {
    private static final String SYMBOLS_WITH_DEPTH = "CcTtUSsMmA";

    private FaultRuns() {
    }

    // ---- tastes by their grammar; a symbol is a letter and a depth, or a quote and a sign

    private static List<String> symbols(String... all) {
        return List.of(all);
    }

    private static List<List<String>> ways(char symbol, int d) {
        List<List<String>> ways = new ArrayList<>();
        int e = d + 1;
        switch (symbol) {
            case 'X': ways.add(symbols("L", "x")); break;
            case 'x': ways.add(symbols()); ways.add(symbols("';", "L", "x")); break;
            case 'L':
                ways.add(symbols("'y", "':", "S0"));
                ways.add(symbols("'y", "':", "C0", "'?", "S0"));
                break;
            case 'C': ways.add(symbols("T" + d, "c" + d)); break;
            case 'c': ways.add(symbols()); ways.add(symbols("'|", "T" + d, "c" + d)); break;
            case 'T': ways.add(symbols("U" + d, "t" + d)); break;
            case 't': ways.add(symbols()); ways.add(symbols("'&", "U" + d, "t" + d)); break;
            case 'U':
                for (String sign : symbols("'=", "'<", "'>")) {
                    ways.add(symbols("S" + d, sign, "S" + d));
                }
                if (d < 6) {
                    ways.add(symbols("'!", "U" + e));
                    ways.add(symbols("'(", "C" + e, "')"));
                }
                break;
            case 'S': ways.add(symbols("M" + d, "s" + d)); break;
            case 's':
                ways.add(symbols());
                ways.add(symbols("'+", "M" + d, "s" + d));
                ways.add(symbols("'-", "M" + d, "s" + d));
                break;
            case 'M': ways.add(symbols("A" + d, "m" + d)); break;
            case 'm':
                ways.add(symbols());
                ways.add(symbols("'*", "A" + d, "m" + d));
                ways.add(symbols("'/", "A" + d, "m" + d));
                break;
            case 'A':
                for (char letter : "jhirxq".toCharArray()) {
                    ways.add(symbols("'" + letter));
                }
                ways.add(symbols("#", "3"));
                if (d < 6) {
                    ways.add(symbols("'[", "S" + e, "']"));
                }
                break;
            case '3': case '2': case '1':
                ways.add(symbols());
                ways.add(symbols("#", String.valueOf((char) (symbol - 1))));
                break;
            case '0': ways.add(symbols()); break;
            case 'R': ways.add(rowOf(1)); for (int i = 2; i <= 12; i++) { ways.add(rowOf(i)); } break;
            default: throw new IllegalStateException("no symbol " + symbol);
        }
        return ways;
    }

    private static List<String> rowOf(int size) {
        List<String> row = new ArrayList<>();
        for (int i = 0; i < size; i++) {
            row.add("@");
        }
        return row;
    }

    private static boolean isTerminal(String symbol) {
        return symbol.charAt(0) == '\'' || symbol.equals("#") || symbol.equals("@");
    }

    private static boolean fits(String symbol, char sign) {
        if (symbol.equals("#")) {
            return sign >= '0' && sign <= '9';
        }
        if (symbol.equals("@")) {
            return sign >= 'a' && sign <= 'h';
        }
        return symbol.charAt(1) == sign;
    }

    private static Set<List<String>> opened(Set<List<String>> stacks) {
        Set<List<String>> done = new LinkedHashSet<>();
        Set<List<String>> met = new LinkedHashSet<>(stacks);
        Deque<List<String>> open = new ArrayDeque<>(stacks);
        while (!open.isEmpty()) {
            List<String> stack = open.pop();
            if (stack.isEmpty() || isTerminal(stack.get(0))) {
                done.add(stack);
                continue;
            }
            String top = stack.get(0);
            int depth = SYMBOLS_WITH_DEPTH.indexOf(top.charAt(0)) >= 0 ? top.charAt(1) - '0' : 0;
            for (List<String> way : ways(top.charAt(0), depth)) {
                List<String> next = new ArrayList<>(way);
                next.addAll(stack.subList(1, stack.size()));
                if (met.add(next)) {
                    open.push(next);
                }
            }
        }
        return done;
    }

    static int faultByGrammar(String start, String text) {
        Set<List<String>> stacks = new LinkedHashSet<>();
        stacks.add(symbols(start));
        for (int i = 0; i < text.length(); i++) {
            char sign = text.charAt(i);
            if (sign == ' ') {
                stacks = withoutMoreDigits(stacks);
                continue;
            }
            Set<List<String>> next = new LinkedHashSet<>();
            for (List<String> stack : opened(stacks)) {
                if (!stack.isEmpty() && fits(stack.get(0), sign)) {
                    next.add(stack.subList(1, stack.size()));
                }
            }
            if (next.isEmpty()) {
                return i;
            }
            stacks = next;
        }
        for (List<String> stack : opened(stacks)) {
            if (stack.isEmpty()) {
                return -1;
            }
        }
        return text.length();
    }

    private static Set<List<String>> withoutMoreDigits(Set<List<String>> stacks) {
        Set<List<String>> next = new LinkedHashSet<>();
        for (List<String> stack : stacks) {
            boolean more = !stack.isEmpty() && "0123".contains(stack.get(0));
            next.add(more ? stack.subList(1, stack.size()) : stack);
        }
        return next;
    }

    // ---- countries, clause by clause

    private static int faultOfCountry(String text) {
        int[] told = new int[4];
        List<int[]> vows = new ArrayList<>();
        List<int[]> eyes = new ArrayList<>();
        String[] letters = {"ws", "ajh", "pkabnt", "poft"};
        int[][] most = {{8, 9}, {7, 9, 9}, {4, 7, 7, 7, 9, 99}, {4, 4, 11, 11}};
        int[][] without = {{8, 0}, {0, 1, 0}, {0, 0, 0, 1, 1, 7}, {0, 1, 0, 11}};
        int at = 0;
        while (true) {
            at = skip(text, at);
            int sort = at < text.length() ? "pdve".indexOf(text.charAt(at)) : -1;
            if (sort < 0 || ++told[sort] > (sort == 0 ? 5 : 8)) {
                return at;
            }
            at++;
            int[] values = without[sort].clone();
            String left = letters[sort];
            while (true) {
                at = skip(text, at);
                if (at >= text.length() || left.indexOf(text.charAt(at)) < 0) {
                    break;
                }
                char letter = text.charAt(at);
                left = left.replace(letter, '\0');
                int from = skip(text, at + 1);
                int to = from;
                while (to < text.length() && Character.isDigit(text.charAt(to)) && text.charAt(to) < 128) {
                    to++;
                }
                if (to == from || to > from + 2) {
                    return to == from ? from : from + 2;
                }
                int value = Integer.parseInt(text.substring(from, to));
                int item = letters[sort].indexOf(letter);
                if (value > most[sort][item] || sort == 2 && letter == 't' && value == 0) {
                    return to - 1;
                }
                values[item] = value;
                at = to;
            }
            if (sort == 0) {
                if (at >= text.length() || text.charAt(at) != ':') {
                    return at;
                }
                at = skip(text, at + 1);
                int deeds = 0;
                while (at < text.length() && text.charAt(at) >= 'a' && text.charAt(at) <= 'h') {
                    if (++deeds > 12) {
                        return at;
                    }
                    at = skip(text, at + 1);
                }
                if (deeds == 0) {
                    return at;
                }
            }
            if (sort == 2) {
                vows.add(values);
            }
            if (sort == 3) {
                eyes.add(values);
            }
            at = skip(text, at);
            if (at >= text.length()) {
                break;
            }
            if (text.charAt(at) != ';') {
                return at;
            }
            at++;
        }
        boolean whole = told[0] > 0;
        for (int[] v : vows) {
            whole &= v[0] < told[0] && (v[1] < 6 || v[2] < vows.size());
        }
        for (int[] e : eyes) {
            whole &= e[0] < told[0] && e[1] < told[0] && e[0] != e[1] && e[2] <= e[3];
        }
        return whole ? -1 : text.length();
    }

    private static int skip(String text, int at) {
        while (at < text.length() && text.charAt(at) == ' ') {
            at++;
        }
        return at;
    }

    // ---- draws

    private static String mutated(Random r, String text, String signs) {
        StringBuilder b = new StringBuilder(text);
        for (int k = r.nextInt(3); k > 0; k--) {
            int at = r.nextInt(b.length() + 1);
            char sign = r.nextInt(20) == 0 ? (char) (1 + r.nextInt(255)) : signs.charAt(r.nextInt(signs.length()));
            int kind = r.nextInt(4);
            if (kind == 0 && at < b.length()) {
                b.deleteCharAt(at);
            } else if (kind == 1 && at < b.length()) {
                b.setCharAt(at, sign);
            } else if (kind == 2) {
                b.insert(at, sign);
            } else {
                b.setLength(at);
            }
        }
        return b.toString();
    }

    private static String drawnCountry(Random r) {
        StringBuilder b = new StringBuilder();
        String[] letters = {"ws", "ajh", "pkabnt", "poft"};
        for (int k = 1 + r.nextInt(12); k > 0; k--) {
            int sort = r.nextInt(4);
            b.append(b.length() == 0 ? "" : ";").append("pdve".charAt(sort));
            String left = letters[sort];
            for (int i = r.nextInt(left.length() + 1); i > 0; i--) {
                char letter = left.charAt(r.nextInt(left.length()));
                left = r.nextInt(12) == 0 ? left : left.replace(String.valueOf(letter), "");
                int value = r.nextInt(8) == 0 ? r.nextInt(130) : letter == 't' ? 1 + r.nextInt(11) : r.nextInt(2);
                b.append(letter).append(r.nextInt(15) == 0 ? "0" : "").append(value);
                b.append(r.nextInt(15) == 0 ? " " : "");
            }
            if (sort == 0) {
                b.append(':');
                for (int i = 1 + r.nextInt(r.nextInt(4) == 0 ? 13 : 4); i > 0; i--) {
                    b.append((char) ('a' + r.nextInt(8)));
                }
            }
        }
        return b.toString();
    }

    private static void compare(SwornDays x, int sort, String text, int want) {
        if (text.length() > 240) {
            return;
        }
        Check.tape(x, text);
        Check.due("fault(" + sort + ") of '" + text + "'", x.fault(sort), want);
    }

    public static void main(String[] args) {
        Random r = new Random(11);
        SwornDays x = new SwornDays();
        for (int k = 0; k < 6000; k++) {
            String taste = mutated(r, TasteTree.draw(r).text(r), "y:;?|&!()=<>+-*/[]0123456789jhirxq !([!([");
            compare(x, 1, taste, faultByGrammar("X", taste));
            String nested = "y:" + mutated(r, drawn(r, "!(["), "!([") + "j=1)])]?2";
            compare(x, 1, nested, faultByGrammar("X", nested));
            String row = mutated(r, drawn(r, "abcdefgh abcdefghabcdefghi"), "abcdefgh iz");
            compare(x, 2, row, faultByGrammar("R", row));
        }
        for (int k = 0; k < 60000; k++) {
            String country = drawnCountry(r);
            compare(x, 0, country, faultOfCountry(country));
            String other = mutated(r, country, "pdve;:wsajhpkabntpoft0123456789 abcdefgh");
            compare(x, 0, other, faultOfCountry(other));
        }
        Check.end("FaultRuns");
    }

    private static String drawn(Random r, String signs) {
        StringBuilder b = new StringBuilder();
        for (int k = r.nextInt(15); k > 0; k--) {
            b.append(signs.charAt(r.nextInt(signs.length())));
        }
        return b.toString();
    }
}
