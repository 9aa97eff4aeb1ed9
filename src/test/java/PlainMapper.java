import java.util.ArrayList;
import java.util.Arrays;
import java.util.HashMap;
import java.util.List;
import java.util.Map;
import java.util.TreeSet;

/** Section 4 in its plainest form: every way of every AND is tried, and gates are made as the text tells. */
final class PlainMapper {
    private static final int NEVER = 1 << 29;

    /** A way of the least cost: its cell (-1 none, -2 the inverter behind the other turn), nodes and turns by input. */
    private record Way(int cost, int cell, int[] nodes, int turns) {
    }

    private final ChipFlow x;
    private final int design;
    private final int library;
    private final int firstAnd;
    private final int inverter;
    private final TreeSet<Integer> needed = new TreeSet<>();
    private final Map<Integer, Integer> uses = new HashMap<>();
    private final Map<Integer, Way> ways = new HashMap<>();
    private final Map<String, Integer> made = new HashMap<>();
    /** Gates as cell, then the nets of its inputs; and the nets of outputs and next values. */
    final List<int[]> gates = new ArrayList<>();
    final List<Integer> ends = new ArrayList<>();
    /** What map() answers, if below 0; else 0. */
    final int answer;

    PlainMapper(ChipFlow x, int design, int library) {
        this.x = x;
        this.design = design;
        this.library = library;
        firstAnd = 1 + x.graph(design, 0) + x.graph(design, 1);
        inverter = x.cell(library, -1, 1);
        List<Integer> roots = new ArrayList<>();
        for (int k = 0; k < x.graph(design, 2); k++) {
            roots.add(swept(x.root(design, k, false)));
        }
        for (int k = 0; k < x.graph(design, 1); k++) {
            roots.add(swept(x.root(design, k, true)));
        }
        for (int root : roots) {
            uses.merge(root >> 1, 2, Integer::sum);
            collect(root >> 1);
        }
        answer = make(roots);
    }

    private int make(List<Integer> roots) {
        for (int n : needed) {
            if (isLeaf(n) && way(n, 0).cost >= NEVER) {
                return -1;
            }
        }
        for (int root : roots) {
            if (root > 1 && root % 2 == 1 && inverter < 0) {
                return -1;
            }
        }
        for (int root : roots) {
            ends.add(root < 2 ? -1 - root : leafNet(root));
        }
        return gates.size() > 150 ? -2 : 0;
    }

    private int swept(int literal) {
        return x.swept(design, literal >> 1) ^ literal & 1;
    }

    private int part(int n, int side) {
        return swept(x.literal(design, n, side));
    }

    private void collect(int n) {
        if (n >= firstAnd && needed.add(n)) {
            for (int side = 0; side < 2; side++) {
                uses.merge(part(n, side) >> 1, 1, Integer::sum);
                collect(part(n, side) >> 1);
            }
        }
    }

    private boolean isLeaf(int n) {
        return n < firstAnd || uses.get(n) > 1;
    }

    private List<int[]> cuts(int n) {
        TreeSet<int[]> all = new TreeSet<>((a, b) -> {
            for (int k = 0; k < Math.min(a.length, b.length); k++) {
                if (a[k] != b[k]) {
                    return a[k] - b[k];
                }
            }
            return a.length - b.length;
        });
        grow(all, new int[] {part(n, 0) >> 1, part(n, 1) >> 1});
        return new ArrayList<>(all);
    }

    private void grow(TreeSet<int[]> all, int[] nodes) {
        int[] cut = Arrays.stream(nodes).distinct().sorted().toArray();
        if (cut.length <= 3 && all.add(cut)) {
            for (int k = 0; k < cut.length; k++) {
                if (!isLeaf(cut[k])) {
                    int[] more = Arrays.copyOf(cut, cut.length + 1);
                    more[k] = part(cut[k], 0) >> 1;
                    more[cut.length] = part(cut[k], 1) >> 1;
                    grow(all, more);
                }
            }
        }
    }

    private int value(int literal, int[] cut, int values) {
        int node = literal >> 1;
        for (int k = 0; k < cut.length; k++) {
            if (cut[k] == node) {
                return values >> k & 1 ^ literal & 1;
            }
        }
        return value(part(node, 0), cut, values) & value(part(node, 1), cut, values) ^ literal & 1;
    }

    private Way way(int n, int t) {
        Way own = plainWay(n, t);
        Way other = plainWay(n, 1 - t);
        if (inverter >= 0 && other.cost + x.cell(library, inverter, 2) < own.cost) {
            return new Way(other.cost + x.cell(library, inverter, 2), -2, null, 0);
        }
        return own;
    }

    private Way plainWay(int n, int t) {
        Way old = ways.get(2 * n + t);
        if (old != null) {
            return old;
        }
        Way best = new Way(NEVER, -1, null, 0);
        List<int[]> cuts = cuts(n);
        for (int cell = 0; cell < x.cell(library, -1, 0); cell++) {
            int inputs = x.cell(library, cell, 0);
            for (int[] cut : cuts) {
                for (int[] order : inputs == cut.length ? orders(inputs) : new int[0][]) {
                    for (int turns = 0; turns < 1 << inputs; turns++) {
                        int cost = tells(n, t, cell, cut, order, turns) ? cost(cell, cut, order, turns) : NEVER;
                        if (cost < best.cost) {
                            int[] nodes = new int[inputs];
                            for (int k = 0; k < inputs; k++) {
                                nodes[k] = cut[order[k]];
                            }
                            best = new Way(cost, cell, nodes, turns);
                        }
                    }
                }
            }
        }
        ways.put(2 * n + t, best);
        return best;
    }

    private static int[][] orders(int inputs) {
        return inputs == 2 ? new int[][] {{0, 1}, {1, 0}}
                : new int[][] {{0, 1, 2}, {0, 2, 1}, {1, 0, 2}, {1, 2, 0}, {2, 0, 1}, {2, 1, 0}};
    }

    private boolean tells(int n, int t, int cell, int[] cut, int[] order, int turns) {
        for (int values = 0; values < 1 << cut.length; values++) {
            int state = 0;
            for (int k = 0; k < order.length; k++) {
                state |= (values >> order[k] & 1 ^ turns >> k & 1) << k;
            }
            if ((x.cell(library, cell, 1) >> state & 1) != value(2 * n + t, cut, values)) {
                return false;
            }
        }
        return true;
    }

    private int cost(int cell, int[] cut, int[] order, int turns) {
        int cost = x.cell(library, cell, 2);
        for (int k = 0; k < order.length; k++) {
            int node = cut[order[k]];
            int turn = turns >> k & 1;
            if (!isLeaf(node)) {
                cost += way(node, turn).cost;
            } else if (turn == 1) {
                cost += inverter < 0 ? NEVER : x.cell(library, inverter, 2);
            }
            cost = Math.min(cost, NEVER);
        }
        return cost;
    }

    private int newGate(String key, int... cellAndNets) {
        gates.add(cellAndNets);
        int net = firstAnd - 1 + gates.size() - 1;
        made.put(key, net);
        return net;
    }

    private int leafNet(int literal) {
        int n = literal >> 1;
        int net = n < firstAnd ? n - 1 : gate(n, 0);
        String key = "turned " + n;
        if (literal % 2 == 0) {
            return net;
        }
        return made.containsKey(key) ? made.get(key) : newGate(key, inverter, net);
    }

    private int gate(int n, int t) {
        String key = n + " as " + t;
        if (made.containsKey(key)) {
            return made.get(key);
        }
        Way way = way(n, t);
        if (way.cell == -2) {
            return newGate(key, inverter, gate(n, 1 - t));
        }
        int[] all = new int[way.nodes.length + 1];
        all[0] = way.cell;
        for (int k = 0; k < way.nodes.length; k++) {
            int node = way.nodes[k];
            int turn = way.turns >> k & 1;
            all[k + 1] = isLeaf(node) ? leafNet(2 * node + turn) : gate(node, turn);
        }
        return newGate(key, all);
    }
}
