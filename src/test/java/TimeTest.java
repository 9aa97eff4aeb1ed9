import java.util.ArrayList;
import java.util.List;

/** Promises 43 to 45: arrivals, false pairs, paths. */
public final class TimeTest {
    private static void pair() {
        ChipFlow x = Check.chip(Check.PAIR, Check.NAND);
        Check.same("input", x.arrival(0, 0, true), 0);
        Check.same("nand: 3, a pin more", x.arrival(0, 2, true), 4);
        Check.same("inverter: 2, a pin more", x.arrival(0, 3, false), 7);
        path(x, 0, 7, 0, 0, 2, 3);
        path(x, 1, 7, 0, 1, 2, 3);
        Check.same("no third path", x.path(0, 2, -1), -1);
        Check.same("no third path", x.path(0, 2, 0), -1);
        Check.same("no third path", x.path(0, 39, -3), -1);
        x.place(0, 4);
        Check.same("wire 5 / 4", x.arrival(0, 2, true), 5);
        Check.same("wire 7 / 4", x.arrival(0, 3, true), 9);
        path(x, 0, 9, 0, 0, 2, 3);
        Check.index("arrival", () -> x.arrival(0, 4, true));
        Check.index("arrival", () -> x.arrival(0, -1, true));
        Check.index("arrival", () -> x.arrival(1, 0, true));
        Check.index("path", () -> x.path(0, 40, 0));
        Check.index("path", () -> x.path(0, -1, 0));
        Check.index("path", () -> x.path(0, 0, -4));
        Check.index("path", () -> x.path(1, 0, 0));
        Check.same("behind the last net", x.path(0, 0, 2147483647), -1);
        Check.index("falsify", () -> x.falsify(0, 2, 0));
        Check.index("falsify", () -> x.falsify(0, -1, 0));
        Check.index("falsify", () -> x.falsify(0, 0, 1));
        Check.index("falsify", () -> x.falsify(0, 0, -1));
        Check.index("falsify", () -> x.falsify(1, 0, 0));
        Check.same("falsify", x.falsify(0, 0, 0), true);
        Check.same("falsify", x.falsify(0, 0, 0), false);
        path(x, 0, 9, 0, 1, 2, 3);
        Check.same("no second path", x.path(0, 1, -2), -1);
    }

    private static void path(ChipFlow x, int k, int length, int end, int... nets) {
        Check.same("length", x.path(0, k, -1), length);
        Check.same("end", x.path(0, k, -2), end);
        Check.same("nets", x.path(0, k, -3), nets.length);
        for (int n = 0; n < nets.length; n++) {
            Check.same("net " + n, x.path(0, k, n), nets[n]);
        }
        Check.same("behind", x.path(0, k, nets.length), -1);
    }

    private static void ends() {
        // Register r: 3 and two pins more; its own next value and an output are ends of its net.
        ChipFlow x = Check.chip("module m { in a ; reg r ; out y = a ; out z = r ; out t = 1@1 ; reg q ; q <- 0@1 ; }",
                Check.NAND);
        Check.same("register", x.arrival(0, 1, false), 5);
        Check.same("register without a pin more", x.arrival(0, 2, false), 3);
        path(x, 0, 7, 3, 1);
        path(x, 1, 5, 1, 1);
        path(x, 2, 0, 0, 0);
        Check.same("tied ones are none", x.path(0, 3, -1), -1);
        Check.index("falsify a tied one", () -> x.falsify(0, 0, 2));
        Check.index("falsify a tied next value", () -> x.falsify(0, 0, 4));
        Check.same("falsify", x.falsify(0, 1, 3), true);
        path(x, 0, 5, 1, 1);
    }

    static void allPaths(Model m, boolean[][] wrong) {
        List<int[]> all = new ArrayList<>();
        for (int first = 0; first < m.first; first++) {
            go(m, wrong, all, new int[] {first}, m.time(first));
        }
        all.sort((p, q) -> {
            if (p[0] != q[0]) {
                return q[0] - p[0];
            }
            for (int k = 1; k < Math.min(p.length, q.length); k++) {
                if (p[k] != q[k]) {
                    return p[k] - q[k];
                }
            }
            return 0;
        });
        for (int k = 0; k < 40; k++) {
            int[] p = k < all.size() ? all.get(k) : null;
            Check.same("length of " + k, m.x.path(0, k, -1), p == null ? -1 : p[0]);
            Check.same("end of " + k, m.x.path(0, k, -2), p == null ? -1 : p[p.length - 1] - 10000);
            Check.same("nets of " + k, m.x.path(0, k, -3), p == null ? -1 : p.length - 2);
            for (int n = 0; p != null && n < p.length - 2; n++) {
                Check.same("net of " + k, m.x.path(0, k, n), p[n + 1]);
            }
        }
    }

    private static void go(Model m, boolean[][] wrong, List<int[]> all, int[] nets, int length) {
        int last = nets[nets.length - 1];
        for (int e = 0; e < m.ends(); e++) {
            if (m.endNet(e) == last && !wrong[nets[0]][e]) {
                int[] path = new int[nets.length + 2];
                path[0] = length + (e < m.outputs ? 0 : 2);
                System.arraycopy(nets, 0, path, 1, nets.length);
                path[nets.length + 1] = 10000 + e;
                all.add(path);
            }
        }
        for (int g = 0; g < m.gates; g++) {
            boolean follows = false;
            for (int k = 0; k < m.gateInputs(g); k++) {
                follows |= m.input(g, k) == last;
            }
            if (follows) {
                int[] more = java.util.Arrays.copyOf(nets, nets.length + 1);
                more[nets.length] = m.first + g;
                go(m, wrong, all, more, length + m.time(m.first + g));
            }
        }
    }

    static void arrivals(Model m) {
        int[][] due = new int[2][m.nets];
        for (int n = 0; n < m.nets; n++) {
            for (int late = 0; late < 2; late++) {
                int best = n < m.first ? 0 : late == 1 ? 0 : 1 << 30;
                for (int k = 0; n >= m.first && k < m.gateInputs(n - m.first); k++) {
                    int other = due[late][m.input(n - m.first, k)];
                    best = late == 1 ? Math.max(best, other) : Math.min(best, other);
                }
                due[late][n] = best + m.time(n);
                Check.same("arrival " + n, m.x.arrival(0, n, late == 1), due[late][n]);
            }
        }
    }

    private static void counter() {
        ChipFlow x = Check.chip(Check.COUNTER, Check.LIBRARY);
        Model m = new Model(x, 0, 0, 0);
        boolean[][] wrong = new boolean[m.first][m.ends()];
        arrivals(m);
        allPaths(m, wrong);
        x.place(0, 20);
        x.improve(0, 1);
        arrivals(m);
        allPaths(m, wrong);
        int told = 0;
        for (int k = 0; k < 400 && told < 12; k++) {
            int net = 7 * k % m.first;
            int end = 5 * k % m.ends();
            boolean fresh = !wrong[net][end];
            Check.same("falsify", x.falsify(0, net, end), fresh);
            told += fresh ? 1 : 0;
            wrong[net][end] = true;
            if (fresh && told % 4 == 0) {
                allPaths(m, wrong);
            }
        }
        x.alter(0, 0, x.gate(0, 0, 0));
        x.move(0, 0, x.at(0, 0, 0), x.at(0, 0, 1));
        allPaths(m, wrong);
    }

    private static void forty() {
        ChipFlow x = Check.chip("module m { in a : 8 ; out y : 8 = a ; }", Check.NAND);
        for (int k = 0; k < 40; k++) {
            Check.same("falsify", x.falsify(0, k / 8, k % 8), true);
        }
        Check.room("the 41st pair", () -> x.falsify(0, 5, 0));
        Check.same("an old one", x.falsify(0, 0, 0), false);
        Check.index("no end", () -> x.falsify(0, 5, 8));
        Check.same("paths left", x.path(0, 0, 0), 5);
        Check.same("paths left", x.path(0, 2, 0), 7);
        Check.same("paths left", x.path(0, 3, 0), -1);
    }

    public static void main(String[] args) {
        pair();
        ends();
        counter();
        forty();
        Check.finish("TimeTest");
    }
}
