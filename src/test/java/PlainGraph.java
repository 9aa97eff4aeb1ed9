import java.util.ArrayList;
import java.util.List;

/** Section 2 in its plainest form: ANDs made one by one, each looked for among the old ones. */
final class PlainGraph {
    final int firstAnd;
    final List<int[]> ands = new ArrayList<>();

    PlainGraph(int bits) {
        firstAnd = 1 + bits;
    }

    int and(int one, int two) {
        int a = Math.min(one, two);
        int b = Math.max(one, two);
        if (a == 0 || a == (b ^ 1)) {
            return 0;
        }
        if (a == 1 || a == b) {
            return b;
        }
        for (int k = 0; k < ands.size(); k++) {
            if (ands.get(k)[0] == a && ands.get(k)[1] == b) {
                return 2 * (firstAnd + k);
            }
        }
        ands.add(new int[] {a, b});
        return 2 * (firstAnd + ands.size() - 1);
    }

    int or(int a, int b) {
        return and(a ^ 1, b ^ 1) ^ 1;
    }

    int xor(int a, int b) {
        int first = and(a, b ^ 1);
        int second = and(a ^ 1, b);
        return or(first, second);
    }

    int choice(int c, int a, int b) {
        int yes = and(c, a);
        int no = and(c ^ 1, b);
        return or(yes, no);
    }

    int same(int[] a, int[] b) {
        int e = xor(a[0], b[0]) ^ 1;
        for (int k = 1; k < a.length; k++) {
            int next = xor(a[k], b[k]) ^ 1;
            e = and(e, next);
        }
        return e;
    }

    int[] sum(int[] a, int[] b) {
        int[] bits = new int[a.length];
        int carry = 0;
        for (int k = 0; k < bits.length; k++) {
            int x = xor(a[k], b[k]);
            bits[k] = xor(x, carry);
            int both = and(a[k], b[k]);
            int passed = and(x, carry);
            carry = or(both, passed);
        }
        return bits;
    }

    /** All nodes for a pattern: bits of inputs, then of registers. */
    int[] values(int pattern) {
        int[] value = new int[firstAnd + ands.size()];
        for (int n = 1; n < value.length; n++) {
            if (n < firstAnd) {
                value[n] = pattern >> n - 1 & 1;
            } else {
                int[] and = ands.get(n - firstAnd);
                value[n] = (value[and[0] >> 1] ^ and[0] & 1) & (value[and[1] >> 1] ^ and[1] & 1);
            }
        }
        return value;
    }
}
