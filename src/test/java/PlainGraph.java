import java.util.ArrayList;
import java.util.List;
import java.util.Random;

/**
 * Section 2 in its plainest form: ANDs made one by one, each looked for among the old ones; and
 * random expressions, whose text and literals are made together.
 */
final class PlainGraph {
    /** An expression: its text, how tightly it binds (0 a choice .. 7 a primary), its literals from bit 0 on. */
    record Exp(String text, int level, int[] bits) {
    }

    final int firstAnd;
    final List<int[]> ands = new ArrayList<>();
    private final Random random;

    PlainGraph(int bits, long seed) {
        firstAnd = 1 + bits;
        random = new Random(seed);
    }

    int and(int one, int two) {
        int a = Math.min(one, two);
        int b = Math.max(one, two);
        if (a == 0 || a == (b ^ 1)) {
            return 0;
        }
        if (a == 1 || a == b) {
            return b;
        }
        for (int k = 0; k < ands.size(); k++) {
            if (ands.get(k)[0] == a && ands.get(k)[1] == b) {
                return 2 * (firstAnd + k);
            }
        }
        ands.add(new int[] {a, b});
        return 2 * (firstAnd + ands.size() - 1);
    }

    int or(int a, int b) {
        return and(a ^ 1, b ^ 1) ^ 1;
    }

    int xor(int a, int b) {
        int first = and(a, b ^ 1);
        int second = and(a ^ 1, b);
        return or(first, second);
    }

    /** What a node's literals say for a pattern: bits of inputs, then registers. */
    int value(int literal, int pattern) {
        int node = literal >> 1;
        int as = 0;
        if (node >= firstAnd) {
            int[] and = ands.get(node - firstAnd);
            as = value(and[0], pattern) & value(and[1], pattern);
        } else if (node > 0) {
            as = pattern >> node - 1 & 1;
        }
        return as ^ literal & 1;
    }

    private static String wrapped(Exp e, int least) {
        return e.level < least ? "(" + e.text + ")" : e.text;
    }

    /** An expression of that width over these names. */
    Exp grow(List<Exp> names, int width, int depth) {
        int kind = depth == 0 ? 9 : random.nextInt(10);
        if (kind == 0) {
            return choice(grow(names, 1, depth - 1), grow(names, width, depth - 1), grow(names, width, depth - 1));
        }
        if (kind == 1 && width == 1) {
            int wide = 1 + random.nextInt(8);
            return same(grow(names, wide, depth - 1), grow(names, wide, depth - 1));
        }
        if (kind == 2) {
            return not(grow(names, width, depth - 1));
        }
        if (kind <= 4) {
            return sum(grow(names, width, depth - 1), grow(names, width, depth - 1));
        }
        if (kind <= 8) {
            return bitwise(kind - 4 > 3 ? 1 : kind - 4, grow(names, width, depth - 1), grow(names, width, depth - 1));
        }
        return primary(names, width);
    }

    private Exp primary(List<Exp> names, int width) {
        for (int turn = 0; turn < 20; turn++) {
            Exp name = names.get(random.nextInt(names.size()));
            if (name.bits.length == width) {
                return name;
            }
            if (width == 1) {
                int bit = random.nextInt(name.bits.length);
                return new Exp(name.text + "." + bit, 7, new int[] {name.bits[bit]});
            }
        }
        int value = random.nextInt(1 << width);
        int[] bits = new int[width];
        for (int k = 0; k < width; k++) {
            bits[k] = value >> k & 1;
        }
        return new Exp(value + "@" + width, 7, bits);
    }

    private static Exp not(Exp e) {
        int[] bits = e.bits.clone();
        for (int k = 0; k < bits.length; k++) {
            bits[k] ^= 1;
        }
        return new Exp("!" + wrapped(e, 6), 6, bits);
    }

    private Exp choice(Exp c, Exp a, Exp b) {
        int[] bits = new int[a.bits.length];
        for (int k = 0; k < bits.length; k++) {
            int yes = and(c.bits[0], a.bits[k]);
            int no = and(c.bits[0] ^ 1, b.bits[k]);
            bits[k] = or(yes, no);
        }
        return new Exp(wrapped(c, 1) + " ? " + a.text + " : " + b.text, 0, bits);
    }

    private Exp same(Exp a, Exp b) {
        int e = xor(a.bits[0], b.bits[0]) ^ 1;
        for (int k = 1; k < a.bits.length; k++) {
            int next = xor(a.bits[k], b.bits[k]) ^ 1;
            e = and(e, next);
        }
        return new Exp(wrapped(a, 5) + " == " + wrapped(b, 5), 4, new int[] {e});
    }

    private Exp sum(Exp a, Exp b) {
        int[] bits = new int[a.bits.length];
        int carry = 0;
        for (int k = 0; k < bits.length; k++) {
            int x = xor(a.bits[k], b.bits[k]);
            bits[k] = xor(x, carry);
            int both = and(a.bits[k], b.bits[k]);
            int passed = and(x, carry);
            carry = or(both, passed);
        }
        return new Exp(wrapped(a, 5) + " + " + wrapped(b, 6), 5, bits);
    }

    /** Level 1 is |, 2 ^, 3 &. */
    private Exp bitwise(int level, Exp a, Exp b) {
        int[] bits = new int[a.bits.length];
        for (int k = 0; k < bits.length; k++) {
            int x = a.bits[k];
            int y = b.bits[k];
            bits[k] = level == 1 ? or(x, y) : level == 2 ? xor(x, y) : and(x, y);
        }
        String sign = level == 1 ? " | " : level == 2 ? " ^ " : " & ";
        return new Exp(wrapped(a, level) + sign + wrapped(b, level + 1), level, bits);
    }
}
