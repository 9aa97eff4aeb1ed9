import java.util.ArrayList;
import java.util.BitSet;
import java.util.HashSet;
import java.util.List;
import java.util.Random;
import java.util.Set;

/**
 * The largest chip in every way at once: 150 gates of three inputs in one row behind twelve
 * bits of inputs and registers, 162 nets, 12 rows of sites, 1224 faults, a path of 151 nets.
 */
public final class EdgeLargestTest {
    private static final String CELLS = "cell f (a,b,c) = !(a & b) & c , 1000 , 3 ; cell g (a,b,c) = !(a & b) & c , 1000 , 100 ;";

    private static String name(int bit) {
        return bit < 6 ? "a." + bit : "b." + (bit - 6);
    }

    private static BitSet bit(int k) {
        BitSet row = new BitSet();
        for (int p = 0; p < 4096; p++) {
            row.set(p, (p >> k & 1) == 1);
        }
        return row;
    }

    private static BitSet turned(BitSet row) {
        BitSet other = (BitSet) row.clone();
        other.flip(0, 4096);
        return other;
    }

    private static BitSet both(BitSet a, BitSet b) {
        BitSet row = (BitSet) a.clone();
        row.and(b);
        return row;
    }

    /** Two inputs for the next stage, so that neither of its two ANDs has a function that was there. */
    private static int[] freshPair(BitSet last, Set<BitSet> seen, Random random) {
        for (int turn = 0; turn < 2000; turn++) {
            int one = random.nextInt(12);
            int other = random.nextInt(12);
            BitSet inner = both(last, bit(one));
            BitSet outer = both(turned(inner), bit(other));
            if (one != other && !seen.contains(inner) && !seen.contains(outer) && !inner.equals(turned(outer))) {
                return new int[] {one, other};
            }
        }
        Check.same("a fresh stage was found", false, true);
        return new int[] {0, 1};
    }

    /** Each stage is !(the one before & an input) & another input; all ANDs have functions of their own. */
    private static String stages() {
        Random random = new Random(1);
        Set<BitSet> seen = new HashSet<>();
        for (int k = 0; k < 12; k++) {
            seen.add(bit(k));
            seen.add(turned(bit(k)));
        }
        seen.add(new BitSet());
        seen.add(turned(new BitSet()));
        StringBuilder text = new StringBuilder("module m { in a : 6 ; reg b : 6 = 63 ; ");
        StringBuilder exp = new StringBuilder("a.0");
        BitSet last = bit(0);
        for (int k = 0; k < 150; k++) {
            int[] pair = freshPair(last, seen, random);
            BitSet inner = both(last, bit(pair[0]));
            last = both(turned(inner), bit(pair[1]));
            seen.add(inner);
            seen.add(turned(inner));
            seen.add(last);
            seen.add(turned(last));
            exp.insert(0, "(!(").append(" & ").append(name(pair[0])).append(") & ").append(name(pair[1])).append(")");
            if (k % 15 == 14) {
                text.append(k < 149 ? "let n" : "out n").append(k).append(" = ").append(exp).append(" ; ");
                exp = new StringBuilder("n" + k);
            }
        }
        return text.append("}").toString();
    }

    private static ChipFlow largest() {
        ChipFlow x = new ChipFlow();
        Check.library(x, CELLS);
        Check.same("4: design", Check.design(x, stages()), 0);
        Check.same("9: ANDs", x.graph(0, 3), 300);
        Check.same("9: all of them stay", x.graph(0, 5), 300);
        Check.same("20: map", x.map(0, 0), 0);
        return x;
    }

    private static void sizes(ChipFlow x) {
        int[] due = {150, 162, 6, 150000, 156, 0, 0, 0};
        for (int what = 0; what < 8; what++) {
            Check.same("21: chip " + what, x.chip(0, what), due[what]);
        }
        PlainMapper mapper = new PlainMapper(x, 0, 0);
        for (int g = 0; g < 150; g++) {
            for (int what = 0; what < 4; what++) {
                Check.same("22: gate " + g, x.gate(0, g, what), mapper.gates.get(g)[what]);
            }
        }
        Check.same("27: proves", x.proves(0, 0), 0);
    }

    private static void times(ChipFlow x, Model m) {
        TimeTest.allPaths(m, new boolean[m.first][m.ends()]);
        TimeTest.arrivals(m);
        Check.same("45: nets of the longest path", x.path(0, 0, -3), 151);
        Check.same("45: its last net", x.path(0, 0, 150), 161);
        Check.same("45: behind it", x.path(0, 0, 151), -1);
        // All inputs and registers at 1: every stage turns the one before.
        Check.same("47: a change from end to end", x.changes(0, 4094, 4095, 161) > 0, true);
        WaveTest.stepped(m, 4094, 4095, x.changes(0, 4094, 4095, -1) + 2);
        WaveTest.stepped(m, 1755, 4095, x.changes(0, 1755, 4095, -1) + 2);
    }

    private static void latest(ChipFlow x) {
        for (int g = 0; g < 150; g++) {
            Check.same("24: the slowest cell", x.alter(0, g, 1), 0);
        }
        int late = x.arrival(0, 161, true);
        Check.same("43: late", late > 150 * 100, true);
        Check.same("47: within all times", x.changes(0, 4094, 4095, -1) <= 100000, true);
        Check.same("46: in the end", x.wave(0, 4094, 4095, 161, 100000), x.wave(0, 4095, 4095, 161, 0));
        for (int g = 0; g < 150; g++) {
            x.alter(0, g, 0);
        }
    }

    private static void placesAndWires(ChipFlow x, Model m) {
        Check.same("28: twelve rows", x.place(0, 55), 12);
        Check.same("21: H", x.chip(0, 6), 38);
        Check.same("28: thirteen rows", x.place(0, 51), -1);
        Check.same("21: W stays", x.chip(0, 7), 55);
        PlainRouter due = new PlainRouter(m, 1);
        Check.same("33: open nets", x.route(0, 1), due.openNets());
        for (int p = 0; p < 2 * 38 * 57; p++) {
            Check.same("34: point " + p, x.point(0, p), due.owner[p]);
        }
        Check.index("34: behind the last point", () -> x.point(0, 2 * 38 * 57));
        List<int[]> boxes = due.boxes();
        Check.same("36: boxes", x.draw(0), boxes.size());
        for (int b = 0; b < boxes.size(); b++) {
            for (int what = 0; what < 5; what++) {
                Check.same("37: box " + b, x.box(0, b, what), boxes.get(b)[what]);
            }
        }
        Check.same("42: no shorts", x.found(0, 1), 0);
        Check.same("42: opens", x.found(0, 2), due.openNets());
        x.add(0, 0, -1, -1, 4 * 56 + 1, 4 * 37 + 1);
        Check.same("42: all nets in one part", x.found(0, 1), 162 * 161 / 2);
        Check.same("42: one part", x.found(0, 3), 1);
        Check.same("42: no opens", x.found(0, 2), 0);
    }

    private static void faults(ChipFlow x, Model m) {
        Check.same("54: faults", x.faults(0, 0), 1224);
        Check.index("48: no more", () -> x.test(0, 1224));
        Random random = new Random(3);
        for (int turn = 0; turn < 300; turn++) {
            int fault = turn < 4 ? 1220 + turn : random.nextInt(1224);
            int pattern = turn < 4 ? 4095 : random.nextInt(4096);
            Check.same("49: shows " + pattern + " " + fault, x.shows(0, pattern, fault), m.shows(pattern, fault));
            int least = x.test(0, fault);
            Check.same("48: it shows it", least < 0 || m.shows(least, fault), true);
        }
        List<Integer> set = new ArrayList<>();
        int hidden = 0;
        for (int f = 0; f < 1224; f++) {
            hidden += x.test(0, f) < 0 ? 1 : 0;
            if (x.test(0, f) >= 0 && !isShown(x, f, set, -1)) {
                set.add(x.test(0, f));
            }
        }
        for (int k = set.size() - 1; k >= 0; k--) {
            boolean spare = true;
            for (int f = 0; f < 1224; f++) {
                spare &= !isShown(x, f, set, -1) || isShown(x, f, set, k);
            }
            if (spare) {
                set.remove(k);
            }
        }
        Check.same("50: tests", x.tests(0), set.size());
        for (int k = 0; k < set.size(); k++) {
            Check.same("51: pattern " + k, x.pattern(0, k), set.get(k));
        }
        Check.same("54: hidden", x.faults(0, 1), hidden);
        Check.same("54: shown", x.faults(0, 2), 1224 - hidden);
    }

    /** The largest chip four times, and again in a place where one was. */
    private static void again(ChipFlow x) {
        String before = Picture.of(x);
        for (int k = 1; k < 4; k++) {
            Check.same("20: map", x.map(0, 0), k);
        }
        for (int k = 3; k > 0; k--) {
            x.drop(2, k);
        }
        Check.same("as it was", Picture.of(x), before);
        x.drop(2, 0);
        Check.same("20: in its place", x.map(0, 0), 0);
        sizes(x);
        Check.same("28: twelve rows", x.place(0, 55), 12);
    }

    private static boolean isShown(ChipFlow x, int fault, List<Integer> set, int without) {
        for (int k = 0; k < set.size(); k++) {
            if (k != without && x.shows(0, set.get(k), fault)) {
                return true;
            }
        }
        return false;
    }

    public static void main(String[] args) {
        ChipFlow x = largest();
        Model m = new Model(x, 0, 0, 0);
        sizes(x);
        times(x, m);
        latest(x);
        faults(x, m);
        placesAndWires(x, m);
        again(x);
        Check.finish("EdgeLargestTest");
    }
}
