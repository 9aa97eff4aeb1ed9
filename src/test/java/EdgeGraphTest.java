import java.util.BitSet;
import java.util.HashMap;
import java.util.Map;
import java.util.TreeSet;

/** Section 2 and promises 9 to 12: the least and the largest graphs, and numbers that are not there. */
public final class EdgeGraphTest {
    private static final int LEAST = -2147483648;
    private static final int MOST = 2147483647;

    private static ChipFlow house(String text) {
        ChipFlow x = new ChipFlow();
        Check.same("design of " + text, Check.design(x, text), 0);
        return x;
    }

    private static void graph(ChipFlow x, int... due) {
        for (int what = 0; what < due.length; what++) {
            Check.same("9: graph(0, " + what + ")", x.graph(0, what), due[what]);
        }
    }

    /** 9: no such design, then no such what. */
    private static void numbersOfGraph() {
        ChipFlow x = house(Check.COUNTER);
        int[] wrong = {LEAST, -1, 8, MOST};
        for (int what : wrong) {
            Check.noArgument(x, "9: what " + what, () -> x.graph(0, what));
        }
        int[] none = {LEAST, -1, 1, 5, 6, MOST};
        for (int d : none) {
            Check.noIndex(x, "9: design " + d, () -> x.graph(d, 0));
            Check.noIndex(x, "9: design " + d + " before what", () -> x.graph(d, 8));
            Check.noIndex(x, "10: design " + d, () -> x.literal(d, 6, 0));
            Check.noIndex(x, "11: design " + d, () -> x.swept(d, 0));
            Check.noIndex(x, "12: design " + d, () -> x.root(d, 0, false));
        }
    }

    /** A machine without inputs, registers and ANDs. */
    private static void leastMachine() {
        ChipFlow x = house("module m { out y = 1@1 ; out z = 0@1 ; }");
        graph(x, 0, 0, 2, 0, 0, 0, 1, 0);
        Check.same("12: TRUE", x.root(0, 0, false), 1);
        Check.same("12: FALSE", x.root(0, 1, false), 0);
        Check.same("11: FALSE", x.swept(0, 0), 0);
        Check.noIndex(x, "11: no node 1", () -> x.swept(0, 1));
        Check.noIndex(x, "10: no AND", () -> x.literal(0, 0, 0));
        Check.noIndex(x, "10: no AND", () -> x.literal(0, 1, 0));
        Check.noIndex(x, "12: no register", () -> x.root(0, 0, true));
    }

    /** 10: no such AND, or side; 11: no such node; 12: no such bit. */
    private static void numbersOfNodes() {
        ChipFlow x = house("module m { in a ; in b ; reg r ; out y = a & b ; out z = r & a ; }");
        // 0 FALSE, 1 a, 2 b, 3 r, 4 and 5 ANDs.
        int[] noAnds = {LEAST, -1, 0, 1, 2, 3, 6, MOST};
        for (int n : noAnds) {
            Check.noIndex(x, "10: node " + n, () -> x.literal(0, n, 0));
            Check.noIndex(x, "10: node " + n, () -> x.literal(0, n, 1));
        }
        Check.same("10: the first AND", x.literal(0, 4, 0) * 100 + x.literal(0, 4, 1), 204);
        Check.same("10: the last AND", x.literal(0, 5, 0) * 100 + x.literal(0, 5, 1), 206);
        int[] sides = {LEAST, -1, 2, MOST};
        for (int side : sides) {
            Check.noIndex(x, "10: side " + side, () -> x.literal(0, 4, side));
        }
        int[] noNodes = {LEAST, -1, 6, MOST};
        for (int n : noNodes) {
            Check.noIndex(x, "11: node " + n, () -> x.swept(0, n));
        }
        for (int n = 0; n < 6; n++) {
            Check.same("11: node " + n, x.swept(0, n), 2 * n);
        }
        int[] noOutputs = {LEAST, -1, 2, MOST};
        for (int k : noOutputs) {
            Check.noIndex(x, "12: output " + k, () -> x.root(0, k, false));
        }
        int[] noRegisters = {LEAST, -1, 1, MOST};
        for (int k : noRegisters) {
            Check.noIndex(x, "12: register " + k, () -> x.root(0, k, true));
        }
        Check.same("12: last output", x.root(0, 1, false), 10);
        Check.same("12: last register", x.root(0, 0, true), 6);
    }

    private static int rootOf(String exp) {
        ChipFlow x = house("module m { in a ; in b ; out y = " + exp + " ; }");
        return 100 * x.graph(0, 3) + x.root(0, 0, false);
    }

    /** AND(a, b): 0 if one is 0, or a is b turned; the other one, if one is 1, or both are the same; an old one. */
    private static void rulesOfAnd() {
        String[] zeros = {"a & 0@1", "0@1 & a", "a & !a", "!a & a", "0@1 & 0@1", "0@1 & 1@1", "!a & 0@1", "a ^ a", "!(a | !a)"};
        for (String exp : zeros) {
            Check.same(exp, rootOf(exp), 0);
        }
        String[] as = {"a & 1@1", "1@1 & a", "a & a", "a | a", "a | 0@1", "0@1 | a", "a ^ 0@1", "0@1 ^ a", "a == 1@1",
            "1@1 ? a : b", "0@1 ? b : a", "b ? a : a", "a + 0@1", "0@1 + a"};
        for (String exp : as) {
            int due = exp.equals("b ? a : a") ? 300 + 2 * 5 + 1 : 2;
            Check.same(exp, rootOf(exp), due);
        }
        String[] turned = {"!a & !a", "!a & 1@1", "a ^ 1@1", "1@1 ^ a", "a == 0@1", "!a | !a", "a ? 0@1 : 1@1"};
        for (String exp : turned) {
            Check.same(exp, rootOf(exp), 3);
        }
        Check.same("1", rootOf("a | !a"), 1);
        Check.same("1", rootOf("a == a"), 1);
        Check.same("1", rootOf("1@1 | a"), 1);
        Check.same("one AND, found again", rootOf("(a & b) & (b & a)"), 106);
        Check.same("one AND", rootOf("!(!a | !b)"), 106);
        Check.same("an AND of the same nodes, turned, is another one", rootOf("(a & b) | (a & !b)"), 311);
    }

    /** The lesser literal first. */
    private static void lesserFirst() {
        ChipFlow x = house("module m { in a ; in b ; out y = b & a ; out z = !b & a ; out w = b & !a ; out v = (a & b) & a ; }");
        int[][] due = {{2, 4}, {2, 5}, {3, 4}, {2, 6}};
        for (int k = 0; k < 4; k++) {
            Check.same("10: the lesser", x.literal(0, 3 + k, 0), due[k][0]);
            Check.same("10: the other", x.literal(0, 3 + k, 1), due[k][1]);
        }
        graph(x, 2, 0, 4, 4, 2, 3, 1, 0);
    }

    /** 9: the depth of outputs and next values, not of what nobody needs. */
    private static void depths() {
        graph(house("module m { in a ; out y = a ; let l = a & !(a & 1@1) ; }"), 1, 0, 1, 0, 0, 0, 1, 0);
        graph(house("module m { in a ; in b ; out y = a ; let l = a & b ; }"), 2, 0, 1, 1, 0, 0, 1, 0);
        graph(house("module m { in a ; in b ; out y = a ; reg r ; r <- a & b & r ; }"), 2, 1, 1, 2, 2, 2, 1, 0);
        graph(house("module m { in a ; in b ; out y = a & b ; reg r ; r <- a ; }"), 2, 1, 1, 1, 1, 1, 2, 0);
    }

    /** 9: REACHED states, one at least, 64 at most; 7: the beginning. */
    private static void states() {
        graph(house("module m { reg r : 6 = 63 ; out y = r.0 ; }"), 0, 6, 1, 0, 0, 0, 1, 63);
        Check.same("all are reached", house("module m { reg r : 6 = 5 ; r <- r + 1@6 ; out y = r.0 ; }").graph(0, 6), 64);
        Check.same("half of them", house("module m { reg r : 6 = 5 ; r <- r + 2@6 ; out y = r.0 ; }").graph(0, 6), 32);
        Check.same("by inputs", house("module m { in a : 6 ; reg r : 6 = 63 ; r <- a ; out y = r.0 ; }").graph(0, 6), 64);
        Check.same("by some", house("module m { in a : 6 ; reg r : 6 = 63 ; r <- a & 21@6 ; out y = r.0 ; }").graph(0, 6), 9);
        Check.same("beginnings, the first register lowest",
                house("module m { reg a = 1 ; reg b : 2 = 2 ; reg c : 3 = 4 ; out y = a ; }").graph(0, 7), 1 | 2 << 1 | 4 << 3);
    }

    /** SWEPT over all patterns of 0 to 12 bits: what differs for one of them stays apart. */
    private static void sweptOverAll() {
        for (int bits = 1; bits <= 12; bits++) {
            StringBuilder text = new StringBuilder("module m { ");
            for (int k = 0; k < bits; k++) {
                text.append(k % 2 == 0 || bits - k > 6 ? "in" : "reg").append(" i").append(k).append(" ; ");
            }
            StringBuilder up = new StringBuilder("i0");
            StringBuilder down = new StringBuilder("i" + (bits - 1));
            for (int k = 1; k < bits; k++) {
                up.append(" & i").append(k);
                down.append(" & i").append(bits - 1 - k);
            }
            text.append("let u = ").append(up).append(" ; let d = ").append(down).append(" ; out y = u ; out z = !d ; ");
            text.append("out o = !(").append(up.toString().replace("i", "!i")).append(") ; out f = u & !d ; out t = !u | d ; }");
            ChipFlow x = house(text.toString());
            int all = x.root(0, 0, false);
            int other = x.root(0, 1, false);
            int any = x.root(0, 2, false);
            Check.same("11: all of " + bits + " bits stand for themselves", x.swept(0, all >> 1), all & ~1);
            Check.same("11: from behind they stand for the same", x.swept(0, other >> 1) ^ other & 1, all ^ 1);
            Check.same("11: any of " + bits + " bits", x.swept(0, any >> 1), bits == 1 ? 2 : any & ~1);
            int never = x.root(0, 3, false);
            Check.same("11: FALSE", x.swept(0, never >> 1) ^ never & 1, 0);
            int always = x.root(0, 4, false);
            Check.same("11: TRUE", x.swept(0, always >> 1) ^ always & 1, 1);
            Check.same("9: swept ANDs", x.graph(0, 5), 2 * (bits - 1));
        }
    }

    /** A node may stand for TRUE: the turned FALSE; or for an input, turned. */
    private static void sweptToConstants() {
        ChipFlow x = house("module m { in a ; in b ; let n = !((a & b) & (a & !b)) ; let k = !((a & b) & (!a & b)) ; "
                + "out y = n & k ; out z = (a | b) & !(!a & b) ; out w = !((a & !b) | (a & b)) ; }");
        // 3 a & b, 4 a & !b, 5 their AND; 6 !a & b, 7; 8 n & k; 9 !a & !b, 10 z; 11 w.
        int[] due = {0, 2, 4, 6, 8, 0, 12, 0, 1, 18, 2, 3};
        for (int n = 0; n < due.length; n++) {
            Check.same("11: swept " + n, x.swept(0, n), due[n]);
        }
        Check.same("12: as they were made", x.root(0, 0, false), 16);
        Check.same("12: as they were made", x.root(0, 1, false), 20);
        Check.same("9: no AND is needed", x.graph(0, 5), 0);
    }

    /** A bit of the twelve inputs, as it is or turned, by its literal. */
    private static String bit(int literal) {
        int k = (literal >> 1) - 1;
        return (literal % 2 == 0 ? "" : "!") + (k < 6 ? "a." + k : "b." + (k - 6));
    }

    /** All pairs of bits, and all again from behind: each AND is found again, and none that shares but one literal. */
    private static void allPairs() {
        PlainGraph plain = new PlainGraph(12);
        StringBuilder text = new StringBuilder("module m { in a : 6 ; in b : 6 ; ");
        int[] roots = new int[2];
        for (int turn = 0; turn < 2; turn++) {
            text.append("out y").append(turn).append(" = 0@1");
            for (int one = 2; one < 26; one++) {
                for (int two = one / 2 * 2 + 2; two < 26; two++) {
                    int a = turn == 0 ? one : 27 - one;
                    int b = turn == 0 ? two : 27 - two;
                    text.append(" | ").append(bit(a)).append(" & ").append(bit(b));
                    int pair = plain.and(a, b);
                    roots[turn] = plain.or(roots[turn], pair);
                }
            }
            text.append(" ; ");
        }
        ChipFlow x = house(text.append("}").toString());
        Check.same("9: ANDs", x.graph(0, 3), plain.ands.size());
        Check.same("9: 264 pairs, and 263 to join them, twice", plain.ands.size(), 264 + 2 * 263);
        for (int k = 0; k < plain.ands.size(); k++) {
            Check.same("10: the lesser", x.literal(0, 13 + k, 0), plain.ands.get(k)[0]);
            Check.same("10: the other", x.literal(0, 13 + k, 1), plain.ands.get(k)[1]);
        }
        Check.same("12: root", x.root(0, 0, false), roots[0]);
        Check.same("12: root", x.root(0, 1, false), roots[1]);
    }

    /** Random designs of several modules: every AND in its order, every root, every swept node, or the fault. */
    private static void randomMachines() {
        int good = 0;
        for (int seed = 0; seed < 1500; seed++) {
            good += randomMachine(seed) ? 1 : 0;
        }
        Check.same("many were good", good > 500, true);
        // One in which a search for an old AND that looks at one literal alone goes wrong.
        Check.same("a good one", randomMachine(4538606), true);
    }

    private static boolean randomMachine(long seed) {
        PlainMachine due = new PlainMachine(seed);
        ChipFlow x = new ChipFlow();
        Check.same("4: design of " + due.text, Check.design(x, due.text), due.fault() == 0 ? 0 : -1 - due.place());
        Check.same("6: fault of " + due.text, x.fault(), due.fault());
        if (x.isThere(0, 0)) {
            compare(x, due);
        }
        return x.isThere(0, 0);
    }

    private static void compare(ChipFlow x, PlainMachine due) {
        PlainGraph plain = due.graph;
        Check.same("9: ANDs", x.graph(0, 3), plain.ands.size());
        Check.same("9: inputs", x.graph(0, 0), due.inputs);
        Check.same("9: registers", x.graph(0, 1), due.registers);
        Check.same("9: outputs", x.graph(0, 2), due.outputs);
        Check.same("9: beginning", x.graph(0, 7), due.beginning);
        for (int k = 0; k < plain.ands.size(); k++) {
            Check.same("10: the lesser", x.literal(0, plain.firstAnd + k, 0), plain.ands.get(k)[0]);
            Check.same("10: the other", x.literal(0, plain.firstAnd + k, 1), plain.ands.get(k)[1]);
        }
        for (int k = 0; k < due.outputs; k++) {
            Check.same("12: output", x.root(0, k, false), due.outRoots.get(k));
        }
        for (int k = 0; k < due.registers; k++) {
            Check.same("12: next value", x.root(0, k, true), due.nextRoots.get(k));
        }
        compareValues(x, due);
    }

    /** Over all patterns: what nodes stand for, which states are reached, what a clock answers. */
    private static void compareValues(ChipFlow x, PlainMachine due) {
        int patterns = 1 << due.inputs + due.registers;
        int[] next = new int[patterns];
        int[] outputs = new int[patterns];
        Map<String, Integer> functions = new HashMap<>();
        int nodes = due.graph.firstAnd + due.graph.ands.size();
        BitSet[] rows = new BitSet[nodes];
        for (int n = 0; n < nodes; n++) {
            rows[n] = new BitSet();
        }
        for (int p = 0; p < patterns; p++) {
            int[] value = due.graph.values(p);
            for (int n = 0; n < nodes; n++) {
                rows[n].set(p, value[n] == 1);
            }
            for (int k = 0; k < due.outputs; k++) {
                outputs[p] |= (value[due.outRoots.get(k) >> 1] ^ due.outRoots.get(k) & 1) << k;
            }
            for (int k = 0; k < due.registers; k++) {
                next[p] |= (value[due.nextRoots.get(k) >> 1] ^ due.nextRoots.get(k) & 1) << k;
            }
        }
        for (int n = 0; n < nodes; n++) {
            BitSet turned = (BitSet) rows[n].clone();
            turned.flip(0, patterns);
            functions.putIfAbsent(rows[n].toString(), 2 * n);
            functions.putIfAbsent(turned.toString(), 2 * n + 1);
            Check.same("11: swept", x.swept(0, n), functions.get(rows[n].toString()));
        }
        TreeSet<Integer> reached = new TreeSet<>();
        reach(reached, next, due.beginning, due.inputs);
        Check.same("9: reached", x.graph(0, 6), reached.size());
        int state = due.beginning;
        for (int turn = 0; turn < 20; turn++) {
            int input = turn * 37 % (1 << due.inputs);
            Check.same("14: play", x.play(0, input), outputs[state << due.inputs | input]);
            state = next[state << due.inputs | input];
            Check.same("15: state", x.state(0), state);
        }
    }

    private static void reach(TreeSet<Integer> reached, int[] next, int state, int inputs) {
        if (reached.add(state)) {
            for (int input = 0; input < 1 << inputs; input++) {
                reach(reached, next, next[state << inputs | input], inputs);
            }
        }
    }

    public static void main(String[] args) {
        numbersOfGraph();
        leastMachine();
        numbersOfNodes();
        rulesOfAnd();
        lesserFirst();
        depths();
        states();
        sweptOverAll();
        sweptToConstants();
        allPairs();
        randomMachines();
        Check.finish("EdgeGraphTest");
    }
}
