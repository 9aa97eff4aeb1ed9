/** Section 6 and promises 33 to 35: rounds and points at their bounds, wires compared with the plain router's. */
public final class EdgeWireTest {
    private static final int LEAST = -2147483648;
    private static final int MOST = 2147483647;
    private static final int[] NO_CHIPS = {LEAST, -1, 1, 4, MOST};

    private static int routed = 0;
    private static int robbed = 0;
    private static int ended = 0;
    private static int endedWithRobbed = 0;
    private static int cutShort = 0;

    /** 33: rounds are not 0 .. 12; there are no places. */
    private static void countOfRounds() {
        ChipFlow x = Check.chip(Check.PAIR, Check.NAND);
        int[] wrong = {LEAST, -1, 13, MOST};
        for (int turn = 0; turn < 3; turn++) {
            for (int rounds : wrong) {
                Check.noArgument(x, "33: rounds " + rounds, () -> x.route(0, rounds));
            }
            for (int c : NO_CHIPS) {
                Check.noIndex(x, "33: chip " + c, () -> x.route(c, 0));
                Check.noIndex(x, "33: chip " + c + " before rounds", () -> x.route(c, 13));
            }
            if (turn == 0) {
                Check.noState(x, "33: no places", () -> x.route(0, 0));
                Check.noState(x, "33: no places", () -> x.route(0, 12));
                x.place(0, 6);
            } else if (turn == 1) {
                Check.same("33: no rounds", x.route(0, 0), 0);
                Check.same("33: twelve rounds", x.route(0, 12), 0);
                x.draw(0);
            }
        }
        x.route(0, 0);
        Check.state("33: the layout goes", () -> x.check(0));
    }

    /** 34: also no such point; 35: no such net, what; not routed (or that went). */
    private static void numbers() {
        ChipFlow x = Check.chip(Check.PAIR, Check.NAND);
        unrouted(x);
        x.place(0, 4);
        unrouted(x);
        x.route(0, 0);
        // W is 4, H is 8: points 0 to 95.
        int[] noPoints = {LEAST, -1, 96, MOST};
        for (int p : noPoints) {
            Check.noIndex(x, "34: point " + p, () -> x.point(0, p));
        }
        Check.same("34: the first point", x.point(0, 0), 0);
        Check.same("34: the last point", x.point(0, 95), -1);
        wrongOnes(x);
        x.place(0, 4);
        unrouted(x);
        x.route(0, 0);
        x.move(0, 0, 0, 0);
        unrouted(x);
    }

    private static void wrongOnes(ChipFlow x) {
        int[] noNets = {LEAST, -1, 4, MOST};
        for (int net : noNets) {
            Check.noIndex(x, "35: net " + net, () -> x.routed(0, net, 0));
            Check.noIndex(x, "35: net " + net + " before what", () -> x.routed(0, net, 5));
        }
        int[] whats = {LEAST, -1, 5, MOST};
        for (int what : whats) {
            Check.noArgument(x, "35: what " + what, () -> x.routed(0, 3, what));
        }
        for (int c : NO_CHIPS) {
            Check.noIndex(x, "34: chip " + c, () -> x.point(c, 0));
            Check.noIndex(x, "35: chip " + c, () -> x.routed(c, 0, 5));
        }
    }

    /** Of a chip without wires numbers from 0 on of points count as there. */
    private static void unrouted(ChipFlow x) {
        int[] there = {0, 95, 96, MOST};
        for (int p : there) {
            Check.noState(x, "34: point " + p, () -> x.point(0, p));
        }
        Check.noIndex(x, "34: point -1", () -> x.point(0, -1));
        Check.noIndex(x, "34: the least number", () -> x.point(0, LEAST));
        for (int what = 0; what < 5; what++) {
            int w = what;
            Check.noState(x, "35: not routed", () -> x.routed(0, 3, w));
        }
        wrongOnes(x);
        Check.noState(x, "36: not routed", () -> x.draw(0));
    }

    /** A net with one pin needs no wire; pins side by side need one step. */
    private static void smallest() {
        ChipFlow x = Check.chip("module m { in a ; in b ; reg r ; r <- r ; out y = b ; }", Check.NAND);
        x.place(0, 4);
        Check.same("33: route", x.route(0, 0), 0);
        int[][] due = {{0, 0, 0, 0, 1}, {0, 0, 0, 0, 2}, {2, 1, 0, 0, 2}};
        for (int what = 0; what < 5; what++) {
            Check.same("35: one pin", x.routed(0, 0, what), due[0][what]);
            Check.same("35: side by side", x.routed(0, 2, what), due[2][what]);
        }
        Check.same("34: flop's pins", x.point(0, 6 + 1), 2);
        Check.same("34: flop's pins", x.point(0, 6 + 2), 2);
        Check.same("34: a pin alone has no wire", x.point(0, 0), -1);
        Check.same("35: two pins", x.routed(0, 1, 4), 2);
    }

    private static void same(Model m, int rounds) {
        PlainRouter due = new PlainRouter(m, rounds);
        ChipFlow x = m.x;
        Check.same("33: open nets", x.route(0, rounds), due.openNets());
        for (int p = 0; p < due.owner.length; p++) {
            if (x.point(0, p) != due.owner[p]) {
                Check.same("34: point " + p, x.point(0, p), due.owner[p]);
            }
        }
        for (int net = 0; net < m.nets; net++) {
            Check.same("35: points of " + net, x.routed(0, net, 0), due.points(net));
            Check.same("35: steps of " + net, x.routed(0, net, 1), due.steps.get(net).size());
            Check.same("35: vias of " + net, x.routed(0, net, 2), due.vias(net));
            Check.same("35: open " + net, x.routed(0, net, 3), due.open[net]);
            Check.same("35: pins of " + net, x.routed(0, net, 4), m.pinsOn(net));
        }
        int last = due.owner.length;
        Check.same("34: the last point", x.point(0, last - 1), due.owner[last - 1]);
        Check.index("34: behind the last point", () -> x.point(0, last));
        routed++;
        robbed += due.robbed;
        ended += due.endedAtOnce ? 1 : 0;
        endedWithRobbed += due.endedWithRobbed ? 1 : 0;
        cutShort += due.openNets() > 0 && due.roundsMade == rounds && rounds > 0 ? 1 : 0;
    }

    private static void allRouted(String design, String library, int... sites) {
        ChipFlow x = Check.chip(design, library);
        Model m = new Model(x, 0, 0, 0);
        for (int w : sites) {
            if (x.place(0, w) > 0) {
                int[] rounds = {0, 1, 2, 5, 12};
                for (int r : rounds) {
                    same(m, r);
                }
                x.improve(0, 1);
                same(m, 3);
            }
        }
    }

    /** Wires that meet: free ones, robbed ones, pins that cannot be reached, rounds that are too few. */
    private static void wires() {
        allRouted(Check.COUNTER, Check.LIBRARY, 8, 12, 17, 33, 60);
        allRouted(Check.COUNTER, Check.NAND, 14, 22, 40);
        allRouted("module m { in a : 3 ; in b : 3 ; reg r : 2 ; r <- a.1 ? r + 1@2 : r ; out s : 3 = a + b ; out e = a == b ; "
                + "out p = a.0 ^ b.1 ^ r.0 ; out t = 1@1 ; }", Check.NAND, 30, 45, 60);
        // As many inputs, or outputs, as the grid is high: some pins are shut in for good.
        allRouted("module m { in a : 5 ; out y = a.0 & a.2 ; out z = a.1 | a.3 & a.4 ; out w = a == 9@5 ; }", Check.NAND, 50, 60);
        allRouted("module m { in a : 8 ; in b : 4 ; out y = a == 200@8 & b == 3@4 ; out z = a.1 ^ b.2 ; }", Check.LIBRARY, 25, 40, 60);
        allRouted("module m { in a : 3 ; reg r : 3 ; r <- a + r ; out y : 8 = 255@8 ; out z : 3 = r ; out w : 3 = a & r ; "
                + "out v : 2 = 2@2 ; }", Check.NAND, 30, 60);
        // Outputs as many as the grid is high: a net robs others on its way to a pin that is shut in.
        allRouted("module m { in a : 4 ; out y0 = a.1 | a.3 ^ !a.0 ; out y1 = a.1 | !a.3 ^ y0 ; out y2 = a.0 | !y0 | !a.3 ^ a.0 ; "
                + "out y3 = a.1 ; out y4 = a.2 & y1 | !a.1 & !a.3 ; out y5 = a.2 | !y0 ^ a.2 ; }", Check.LIBRARY, 40);
        allRouted("module m { in a : 4 ; out y0 = a.1 ^ !a.2 ; out y1 = a.2 | !y0 & a.2 ; out y2 = a.1 ; out y3 = a.3 ^ !a.2 ; "
                + "out y4 = a.3 & a.2 ; out y5 = a.1 ^ !y4 & !y0 ^ !a.1 ; out y6 = a.0 ^ !y2 ; out y7 = a.2 ^ a.2 & !a.0 ; }",
                Check.LIBRARY, 15, 29);
        allRouted(EdgeChipTest.chains(20), "cell and (a,b) = a & b , 2 , 1 ;", 8, 16, 40);
        Check.same("33: many were routed", routed > 100, true);
        Check.same("33: nets were robbed", robbed > 0, true);
        Check.same("33: rounds ended at once", ended > 0, true);
        Check.same("33: some of them behind a robbery", endedWithRobbed > 0, true);
        Check.same("33: some rounds were too few", cutShort > 0, true);
    }

    /** Small random chips, some without inputs, on few sites and on many. */
    private static void randomWires() {
        int made = 0;
        for (int seed = 0; seed < 400 && made < 60; seed++) {
            PlainMachine machine = new PlainMachine(seed);
            ChipFlow x = new ChipFlow();
            Check.library(x, seed % 2 == 0 ? Check.NAND : Check.LIBRARY);
            if (machine.fault() != 0 || Check.design(x, machine.text) != 0 || x.map(0, 0) != 0 || x.chip(0, 4) > 40) {
                continue;
            }
            Model m = new Model(x, 0, 0, 0);
            made++;
            int[] sites = {4 + seed % 5, 9 + seed % 13, 60 - seed % 20};
            for (int w : sites) {
                if (x.place(0, w) > 0) {
                    same(m, 12);
                    same(m, seed % 3);
                }
            }
        }
        String[] closed = {"module m { reg r : 4 = 9 ; r <- r + 3@4 ; out y = r.0 ^ r.3 ; out z = r == 5@4 ; }",
            "module m { reg r : 6 ; r <- r.0 ? r + 5@6 : !r ; out y : 6 = r ; }",
            "module m { reg r : 5 ; r <- r ^ (r + 1@5) ; out y = r.4 ; out z = r.1 & r.2 ; out w = 0@1 ; }"};
        for (String design : closed) {
            allRouted(design, Check.NAND, 10, 13, 16, 19, 22, 25, 30, 40, 50, 60);
            allRouted(design, Check.LIBRARY, 6, 8, 11, 14, 17, 20, 26, 33, 60);
        }
        Check.same("33: many were routed", made, 60);
    }

    public static void main(String[] args) {
        countOfRounds();
        numbers();
        smallest();
        wires();
        randomWires();
        Check.finish("EdgeWireTest");
    }
}
