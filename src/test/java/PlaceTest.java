/** Promises 28 to 32: places, moves, improvement, wire. */
public final class PlaceTest {
    private static final String ALU = "module alu { in a : 2 ; in b : 2 ; in op : 2 ; reg z : 2 = 1 ; z <- op + z ; "
            + "out y : 2 = op.1 ? (op.0 ? a & b : a | b) : op.0 ? a + z : a + b ; out eq = a == b ; out k = 0@1 ; }";

    private static void wires(Model m) {
        int all = 0;
        for (int net = 0; net < m.nets; net++) {
            int due = PlainPlaces.wire(m.pins(), net);
            Check.same("wire " + net, m.x.wire(m.chip, net), due);
            all += due;
        }
        Check.same("wire of the chip", m.x.wire(m.chip, -1), all);
    }

    private static void pair() {
        ChipFlow x = Check.chip(Check.PAIR, Check.NAND);
        Check.state("at", () -> x.at(0, 0, 0));
        Check.argument("at", () -> x.at(0, 0, 2));
        Check.state("move", () -> x.move(0, 0, 0, 0));
        Check.state("improve", () -> x.improve(0, 1));
        Check.argument("improve", () -> x.improve(0, 0));
        Check.state("wire", () -> x.wire(0, -1));
        Check.argument("place", () -> x.place(0, 3));
        Check.argument("place", () -> x.place(0, 61));
        Check.index("place", () -> x.place(1, 3));
        Check.same("rows", x.place(0, 4), 2);
        int[] due = {2, 4, 0, 3, 2, 2, 8, 4};
        for (int what = 0; what < 8; what++) {
            Check.same("chip " + what, x.chip(0, what), due[what]);
        }
        Check.same("nand's site", x.at(0, 0, 0), 0);
        Check.same("nand's row", x.at(0, 0, 1), 0);
        Check.same("inverter's site", x.at(0, 1, 0), 0);
        Check.same("inverter's row", x.at(0, 1, 1), 1);
        int[] wire = {2, 2, 5, 7};
        for (int net = 0; net < 4; net++) {
            Check.same("wire", x.wire(0, net), wire[net]);
        }
        Check.same("wire", x.wire(0, -1), 16);
        Check.same("improve: none have as many sites", x.improve(0, 4), 16);
        Check.index("at", () -> x.at(0, 2, 2));
        Check.index("at", () -> x.at(0, -1, 0));
        Check.index("wire", () -> x.wire(0, 4));
        Check.index("wire", () -> x.wire(0, -2));
        Check.argument("improve", () -> x.improve(0, 5));
        Check.index("improve", () -> x.improve(1, 5));
        Check.same("rows", x.place(0, 5), 1);
        Check.same("inverter's site", x.at(0, 1, 0), 3);
        Check.same("height", x.chip(0, 6), 5);
    }

    private static void moves() {
        ChipFlow x = Check.drawn();
        Check.index("move", () -> x.move(0, 2, 0, 0));
        Check.index("move", () -> x.move(1, 0, 0, 0));
        int[][] wrong = {{0, 2, 0}, {0, -1, 0}, {0, 0, 2}, {0, 0, -1}, {1, 2, 0}, {1, 3, 1}, {0, 1, 1},
            {0, 2147483647, 0}, {0, 0, -2147483648}};
        for (int[] w : wrong) {
            Check.same("move", x.move(0, w[0], w[1], w[2]), false);
        }
        Check.same("wires stay", x.found(0, 0), 1);
        Check.same("move", x.move(0, 0, 1, 0), true);
        Check.same("moved", x.at(0, 0, 0), 1);
        Check.same("wire", x.wire(0, 0), 3);
        Check.state("wires go", () -> x.point(0, 0));
        Check.state("layout goes", () -> x.check(0));
        x.route(0, 0);
        Check.same("its own place is free", x.move(0, 0, 1, 0), true);
        Check.state("wires go", () -> x.draw(0));
        Check.same("to the other row", x.move(0, 1, 2, 1), true);
        Check.same("and there", x.move(0, 0, 0, 1), false);
        wires(new Model(x, 0, 0, 0));
    }

    private static void improvement() {
        ChipFlow x = Check.chip(ALU, Check.LIBRARY);
        Model m = new Model(x, 0, 0, 0);
        Check.same("height of many outputs", x.place(0, 60) > 0, true);
        wires(m);
        x.place(0, 14);
        wires(m);
        x.route(0, 0);
        int before = x.wire(0, -1);
        Check.same("something to improve", PlainPlaces.improve(m, 1), true);
        int least = x.wire(0, -1);
        Check.same("less", least < before, true);
        Check.state("wires go", () -> x.point(0, 0));
        wires(m);
        for (int k = 0; k < 12; k++) {
            least = x.improve(0, 4);
        }
        x.route(0, 0);
        Check.same("nothing more", x.improve(0, 4), least);
        Check.same("wires stay", x.routed(0, 0, 3) >= 0, true);
        Check.same("rows", x.place(0, 4), -1);
        Check.same("nothing is done", x.chip(0, 7), 14);
        Check.same("wires stay", x.routed(0, 0, 3) >= 0, true);
        x.draw(0);
        x.place(0, 20);
        Check.state("wires go", () -> x.routed(0, 0, 0));
        Check.state("layout goes", () -> x.box(0, -1, 0));
    }

    private static void empty() {
        ChipFlow x = Check.chip("module m { in a : 8 ; out y : 8 = a ; out z : 4 = 5@4 ; }", Check.NAND);
        Check.same("rows are one at least", x.place(0, 4), 1);
        Check.same("height is that of the outputs", x.chip(0, 6), 12);
        Check.same("wire", x.wire(0, -1), 40);
        Check.same("improve", x.improve(0, 1), 40);
        Check.index("no elements", () -> x.at(0, 0, 0));
    }

    public static void main(String[] args) {
        pair();
        moves();
        improvement();
        empty();
        Check.finish("PlaceTest");
    }
}
