import java.math.BigInteger;
import java.util.ArrayList;
import java.util.List;
import java.util.Random;

/** A taste made up as trees, with its text and its worth. */
final class TasteTree {
    private static final BigInteger MOST = BigInteger.valueOf(1000000);

    /** A sum, term or atom; its kind is its sign, 'n' a number, 'l' a letter, '[' a bracket. */
    private static final class Node {
        char sign;
        int value;
        Node left;
        Node right;
    }

    private final List<Node> conditions = new ArrayList<>();
    private final List<Node> sums = new ArrayList<>();

    static TasteTree draw(Random random) {
        TasteTree t = new TasteTree();
        int clauses = 1 + random.nextInt(3);
        for (int i = 0; i < clauses; i++) {
            t.conditions.add(random.nextInt(3) == 0 ? null : condition(random, 0, 2));
            t.sums.add(sum(random, 0, 2));
        }
        return t;
    }

    private static Node node(char sign, Node left, Node right) {
        Node n = new Node();
        n.sign = sign;
        n.left = left;
        n.right = right;
        return n;
    }

    private static Node condition(Random r, int depth, int size) {
        Node n = truth(r, depth, size);
        for (int i = r.nextInt(size); i > 0; i--) {
            n = node('|', n, truth(r, depth, size));
        }
        return n;
    }

    private static Node truth(Random r, int depth, int size) {
        Node n = unit(r, depth, size);
        for (int i = r.nextInt(size); i > 0; i--) {
            n = node('&', n, unit(r, depth, size));
        }
        return n;
    }

    private static Node unit(Random r, int depth, int size) {
        int kind = depth < 6 ? r.nextInt(6) : 5;
        if (kind == 0) {
            return node('!', unit(r, depth + 1, size), null);
        }
        if (kind == 1) {
            return node('(', condition(r, depth + 1, size), null);
        }
        return node("=<>".charAt(r.nextInt(3)), sum(r, depth, size), sum(r, depth, size));
    }

    private static Node sum(Random r, int depth, int size) {
        Node n = term(r, depth, size);
        for (int i = r.nextInt(size + 1); i > 0; i--) {
            n = node("+-".charAt(r.nextInt(2)), n, term(r, depth, size));
        }
        return n;
    }

    private static Node term(Random r, int depth, int size) {
        Node n = atom(r, depth, size);
        for (int i = r.nextInt(size); i > 0; i--) {
            n = node("*/".charAt(r.nextInt(2)), n, atom(r, depth, size));
        }
        return n;
    }

    private static Node atom(Random r, int depth, int size) {
        int kind = r.nextInt(depth < 6 ? 7 : 6);
        if (kind == 6) {
            return node('[', sum(r, depth + 1, size), null);
        }
        Node n = node(kind < 3 ? 'n' : 'l', null, null);
        n.value = n.sign == 'l' ? r.nextInt(6) : r.nextInt(4) == 0 ? r.nextInt(10000) : r.nextInt(8);
        return n;
    }

    String text(Random r) {
        StringBuilder b = new StringBuilder();
        for (int i = 0; i < sums.size(); i++) {
            b.append(i == 0 ? "y:" : ";y:");
            if (conditions.get(i) != null) {
                write(b, conditions.get(i), r);
                b.append('?');
            }
            write(b, sums.get(i), r);
        }
        return b.toString();
    }

    private static void write(StringBuilder b, Node n, Random r) {
        if (r.nextInt(12) == 0) {
            b.append(' ');
        }
        switch (n.sign) {
            case 'n':
                b.append(n.value);
                return;
            case 'l':
                b.append("jhirxq".charAt(n.value));
                return;
            case '[':
                b.append('[');
                write(b, n.left, r);
                b.append(']');
                return;
            case '(':
                b.append('(');
                write(b, n.left, r);
                b.append(')');
                return;
            case '!':
                b.append('!');
                write(b, n.left, r);
                return;
            default:
                write(b, n.left, r);
                b.append(n.sign);
                write(b, n.right, r);
        }
    }

    int worth(int... letters) {
        for (int i = 0; i < sums.size(); i++) {
            if (conditions.get(i) == null || holds(conditions.get(i), letters)) {
                return value(sums.get(i), letters).intValue();
            }
        }
        return 0;
    }

    private static boolean holds(Node n, int[] letters) {
        switch (n.sign) {
            case '|': return holds(n.left, letters) || holds(n.right, letters);
            case '&': return holds(n.left, letters) && holds(n.right, letters);
            case '!': return !holds(n.left, letters);
            case '(': return holds(n.left, letters);
            case '=': return value(n.left, letters).compareTo(value(n.right, letters)) == 0;
            case '<': return value(n.left, letters).compareTo(value(n.right, letters)) < 0;
            default: return value(n.left, letters).compareTo(value(n.right, letters)) > 0;
        }
    }

    private static BigInteger value(Node n, int[] letters) {
        if (n.sign == 'n') {
            return BigInteger.valueOf(n.value);
        }
        if (n.sign == 'l') {
            return BigInteger.valueOf(letters[n.value]);
        }
        BigInteger left = value(n.left, letters);
        if (n.sign == '[') {
            return left;
        }
        BigInteger right = value(n.right, letters);
        BigInteger answer;
        switch (n.sign) {
            case '+': answer = left.add(right); break;
            case '-': answer = left.subtract(right); break;
            case '*': answer = left.multiply(right); break;
            default: answer = right.signum() == 0 ? BigInteger.ZERO : left.divide(right);
        }
        return answer.min(MOST).max(MOST.negate());
    }
}
