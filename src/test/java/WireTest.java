import java.util.Arrays;

/** Promises 33 to 35: wires, points, what was routed. */
public final class WireTest {
    private static void pair() {
        ChipFlow x = Check.chip(Check.PAIR, Check.NAND);
        Check.state("route", () -> x.route(0, 0));
        Check.argument("route", () -> x.route(0, 13));
        Check.argument("route", () -> x.route(0, -1));
        Check.index("route", () -> x.route(1, 13));
        x.place(0, 4);
        Check.state("point", () -> x.point(0, 99999));
        Check.index("point", () -> x.point(0, -1));
        Check.state("routed", () -> x.routed(0, 3, 4));
        Check.argument("routed", () -> x.routed(0, 3, 5));
        Check.index("routed", () -> x.routed(0, 4, 5));
        Check.same("route", x.route(0, 0), 0);
        int[] owner = new int[96];
        Arrays.fill(owner, -1);
        // Input a: along X, up, along Y, down. Input b at the nand's own height: along X only is shut.
        int[][] wires = {{0, 1, 49, 55, 7}, {6, 54, 60, 12, 13, 14, 62, 56, 8}};
        for (int net = 0; net < 2; net++) {
            for (int p : wires[net]) {
                Check.same("point " + p, x.point(0, p), net);
            }
        }
        int[][] due = {{5, 4, 2, 0, 2}, {9, 8, 4, 0, 2}};
        for (int net = 0; net < 2; net++) {
            for (int what = 0; what < 5; what++) {
                Check.same("routed " + net + " " + what, x.routed(0, net, what), due[net][what]);
            }
        }
        for (int p = 0; p < 96; p++) {
            owner[p] = x.point(0, p);
        }
        for (int net = 0; net < 4; net++) {
            int points = 0;
            for (int p = 0; p < 96; p++) {
                points += owner[p] == net ? 1 : 0;
            }
            Check.same("points", x.routed(0, net, 0), points);
            Check.same("a wire of two pins is a line", x.routed(0, net, 1), points - 1);
        }
        Check.index("point", () -> x.point(0, 96));
        Check.index("point", () -> x.point(1, 0));
        Check.argument("routed", () -> x.routed(0, 0, -1));
        Check.index("routed", () -> x.routed(0, -1, 0));
        x.draw(0);
        Check.argument("route", () -> x.route(0, 13));
        Check.same("nothing changed", x.check(0), 0);
        x.route(0, 0);
        Check.state("layout goes", () -> x.check(0));
    }

    /** A wide machine on few sites: many nets are open, some come back in rounds. */
    private static void rounds() {
        ChipFlow x = Check.chip("module m { in a : 3 ; in b : 3 ; reg r : 2 ; r <- a.1 ? r + 1@2 : r ; "
                + "out s : 3 = a + b ; out e = a == b ; out p = a.0 ^ a.1 ^ b.0 ^ b.2 ^ r.0 ; out t = 1@1 ; }", Check.NAND);
        Model m = new Model(x, 0, 0, 0);
        int[] sites = {20, 30, 44, 60};
        for (int w : sites) {
            if (x.place(0, w) < 0) {
                continue;
            }
            int plain = x.route(0, 0);
            legal(m, plain);
            for (int k = 1; k <= 12; k += 11) {
                int open = x.route(0, k);
                legal(m, open);
            }
            Check.same("routed anew from the beginning", x.route(0, 0), plain);
        }
    }

    /** No wire takes a pin of another net; each wire hangs together; open nets have no points. */
    private static void legal(Model m, int open) {
        ChipFlow x = m.x;
        int width = x.chip(0, 7) + 2;
        for (int[] pin : m.pins()) {
            int owner = x.point(0, pin[2] * width + pin[1]);
            boolean wired = pin[0] >= 0 && x.routed(0, pin[0], 4) > 1 && x.routed(0, pin[0], 3) == 0;
            if (pin[0] >= 0) {
                Check.same("owner of a pin", owner, wired ? pin[0] : -1);
            }
        }
        int count = 0;
        for (int net = 0; net < m.nets; net++) {
            count += x.routed(0, net, 3);
            Check.same("pins", x.routed(0, net, 4), m.pinsOn(net));
            int points = x.routed(0, net, 0);
            boolean none = x.routed(0, net, 3) == 1 || x.routed(0, net, 4) < 2;
            Check.same("points of net " + net, points > 0, !none);
            Check.same("steps of a tree", x.routed(0, net, 1), none ? 0 : points - 1);
        }
        Check.same("open nets", open, count);
        x.draw(0);
        Check.same("no shorts", x.found(0, 1), 0);
        Check.same("opens", x.found(0, 2), open);
        Check.same("no violations", x.check(0), 0);
        Check.same("no parts without a pin", x.found(0, 4), 0);
    }

    public static void main(String[] args) {
        pair();
        rounds();
        Check.finish("WireTest");
    }
}
