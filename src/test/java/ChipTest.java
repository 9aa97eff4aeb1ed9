/** Promises 20 to 27: chips of designs and libraries, their gates and nets, played and proved. */
public final class ChipTest {
    private static void gates(ChipFlow x, int chip, int[][] due) {
        Check.same("gates", x.chip(chip, 0), due.length);
        int first = x.chip(chip, 1) - due.length;
        for (int g = 0; g < due.length; g++) {
            for (int what = 0; what < 4; what++) {
                int want = what < due[g].length ? due[g][what] : -1;
                Check.same("gate " + g + " " + what, x.gate(chip, g, what), want);
            }
            Check.same("net of gate " + g, x.gate(chip, g, 4), first + g);
        }
    }

    private static void pair() {
        ChipFlow x = Check.chip(Check.PAIR, Check.NAND);
        gates(x, 0, new int[][] {{1, 0, 1}, {0, 2}});
        Check.same("netOf", x.netOf(0, 0, false), 3);
        int[] due = {2, 4, 0, 3, 2, 0, 0, 0};
        for (int what = 0; what < 8; what++) {
            Check.same("chip " + what, x.chip(0, what), due[what]);
        }
        Check.argument("chip", () -> x.chip(0, 8));
        Check.argument("chip", () -> x.chip(0, -1));
        Check.index("chip", () -> x.chip(1, 8));
        Check.index("gate", () -> x.gate(0, 2, 9));
        Check.index("gate", () -> x.gate(0, -1, 0));
        Check.index("gate", () -> x.gate(4, 0, 0));
        Check.argument("gate", () -> x.gate(0, 0, 5));
        Check.argument("gate", () -> x.gate(0, 0, -1));
        Check.index("netOf", () -> x.netOf(0, 1, false));
        Check.index("netOf", () -> x.netOf(0, 0, true));
        Check.index("netOf", () -> x.netOf(2, 0, false));
    }

    private static void numbers() {
        ChipFlow x = new ChipFlow();
        Check.library(x, Check.NAND);
        Check.design(x, Check.PAIR);
        for (int k = 0; k < 4; k++) {
            Check.same("map", x.map(0, 0), k);
        }
        Check.room("fifth chip", () -> x.map(0, 0));
        Check.index("no design", () -> x.map(1, 0));
        Check.index("no library", () -> x.map(0, 1));
        x.drop(2, 1);
        Check.index("no library", () -> x.map(0, -1));
        Check.same("the least that is free", x.map(0, 0), 1);
    }

    private static void failures() {
        ChipFlow x = new ChipFlow();
        Check.library(x, "cell nand (a,b) = !(a & b) , 2 , 3 ;");
        Check.library(x, "cell inv (a) = !a , 1 , 1 ; cell or (a,b) = a | b , 1 , 1 ;");
        Check.library(x, "cell inv (a) = !a , 1 , 1 ; cell xor (a,b) = a ^ b , 1 , 1 ;");
        Check.design(x, "module m { in a ; in b ; out y = a & b ; }");
        Check.design(x, "module m { in a ; in b ; out y = !(a & b) ; }");
        Check.design(x, "module m { in a ; out y = a ; out z = 0@1 ; out w = 1@1 ; reg r ; out q = r ; }");
        Check.design(x, "module m { in a ; out y = !a ; }");
        Check.same("no need for 0 without an inverter", x.map(0, 0), -1);
        Check.same("as turned: the root itself is wanted", x.map(1, 0), -1);
        Check.same("an inverter wanted", x.map(3, 0), -1);
        Check.same("no gates", x.map(2, 0), 0);
        Check.same("gates", x.chip(0, 0), 0);
        Check.same("input", x.netOf(0, 0, false), 0);
        Check.same("tied to 0", x.netOf(0, 1, false), -1);
        Check.same("tied to 1", x.netOf(0, 2, false), -2);
        Check.same("register", x.netOf(0, 3, false), 1);
        Check.same("next", x.netOf(0, 0, true), 1);
        Check.same("AND by OR and inverters", x.map(0, 1), 1);
        gates(x, 1, new int[][] {{0, 0}, {0, 1}, {1, 2, 3}, {0, 4}});
        Check.same("AND by XOR cannot be", x.map(0, 2), -1);
        Check.same("nothing was made", x.isThere(2, 2), false);
    }

    private static void tooMany() {
        ChipFlow x = new ChipFlow();
        Check.library(x, Check.NAND);
        StringBuilder text = new StringBuilder("module m { in a : 4 ; in b : 4 ; let s0 : 4 = a ; ");
        for (int k = 1; k < 6; k++) {
            text.append("let s").append(k).append(" : 4 = s").append(k - 1).append(" + (b ^ ").append(3 * k & 15)
                    .append("@4) ; ");
        }
        Check.same("design", Check.design(x, text + "out y : 4 = s5 ; }"), 0);
        Check.same("design", Check.design(x, text + "out y : 4 = s1 ; }"), 1);
        Check.same("more than 150 gates", x.map(0, 0), -2);
        Check.same("nothing was made", x.isThere(2, 0), false);
        Check.same("less", x.map(1, 0), 0);
        Check.same("proves", x.proves(0, 1), 0);
    }

    private static void ways() {
        // The inverter with the least area, of several the first, stands behind roots and leaves.
        ChipFlow x = Check.chip("module m { in a ; in b ; out y = a & !b ; out z = !b ; out w = !(a & !b) ; }",
                "cell big (a) = !a , 5 , 1 ; cell i0 (a) = !a , 2 , 1 ; cell i1 (a) = !a , 2 , 1 ; "
                + "cell and (a,b) = a & b , 4 , 1 ;");
        gates(x, 0, new int[][] {{1, 1}, {3, 0, 2}, {1, 3}});
        Check.same("y", x.netOf(0, 0, false), 3);
        Check.same("z has the same inverter", x.netOf(0, 1, false), 2);
        Check.same("w", x.netOf(0, 2, false), 4);
        // Of cells of one cost the first; of orders the first, then of turns the first.
        x = Check.chip("module m { in a ; in b ; out y = a & b ; }",
                "cell inv (a) = !a , 1 , 1 ; cell one (p,q) = q & p , 3 , 1 ; cell two (p,q) = p & q , 3 , 1 ;");
        gates(x, 0, new int[][] {{1, 0, 1}});
        x = Check.chip("module m { in a ; in b ; out y = a & !b ; }",
                "cell inv (a) = !a , 1 , 1 ; cell x (p,q) = !p & q , 3 , 1 ;");
        gates(x, 0, new int[][] {{1, 1, 0}});
        // A tree over three nodes is one cell; a root in its middle is not passed over.
        x = Check.chip("module m { in a ; in b ; in c ; out y = a & b & c ; }",
                "cell inv (a) = !a , 1 , 1 ; cell nand (a,b) = !(a & b) , 2 , 1 ; cell and (a,b,c) = a & b & c , 5 , 1 ;");
        gates(x, 0, new int[][] {{2, 0, 1, 2}});
        x = Check.chip("module m { in a ; in b ; in c ; out y = a & b & c ; out z = a & b ; }",
                "cell inv (a) = !a , 1 , 1 ; cell nand (a,b) = !(a & b) , 2 , 1 ; cell and (a,b,c) = a & b & c , 5 , 1 ;");
        gates(x, 0, new int[][] {{1, 0, 1}, {0, 3}, {1, 2, 4}, {0, 5}});
        // XOR: the parts over one cut of two nodes, its leaves.
        x = Check.chip("module m { in a ; in b ; out y = a ^ b ; out z = a == b ; }", Check.LIBRARY);
        gates(x, 0, new int[][] {{0, 0}, {5, 2, 1}, {0, 3}});
        Check.same("y", x.netOf(0, 0, false), 4);
        Check.same("z", x.netOf(0, 1, false), 3);
    }

    private static void played() {
        ChipFlow x = Check.chip(Check.COUNTER, Check.LIBRARY);
        int[] inputs = {1, 1, 0, 1, 1, 1, 1, 3, 1, 2, 1};
        for (int input : inputs) {
            Check.same("run " + input, x.run(0, input), x.play(0, input));
        }
        Check.same("reset", x.reset(0), x.state(0));
        Check.same("reset", x.reset(0), 2);
        Check.argument("run", () -> x.run(0, 4));
        Check.argument("run", () -> x.run(0, -1));
        Check.index("run", () -> x.run(1, 4));
        Check.index("reset", () -> x.reset(3));
        Check.same("proves", x.proves(0, 0), 0);
        Check.index("no witness", () -> x.witness(0));
        Check.design(x, Check.COUNTER.replace("n == 7@3", "n == 6@3"));
        Check.design(x, Check.PAIR);
        Check.same("proves", x.proves(0, 1), 5);
        Check.same("witness", x.witness(3), 1);
        Check.same("witness", x.witness(4), 0);
        Check.argument("proves", () -> x.proves(0, 2));
        Check.index("proves", () -> x.proves(0, 3));
        Check.index("proves", () -> x.proves(1, 0));
        Check.same("witness stays", x.witness(3), 1);
    }

    private static void altered() {
        ChipFlow x = Check.chip(Check.PAIR, Check.NAND + " cell nor (a,b) = !(a|b) , 2 , 4 ; "
                + "cell mux (s,a,b) = s&a | !s&b , 6 , 6 ;");
        gates(x, 0, new int[][] {{1, 0, 1}, {0, 2}});
        x.place(0, 8);
        x.route(0, 0);
        x.draw(0);
        x.tests(0);
        int late = x.arrival(0, 3, true);
        Check.index("alter", () -> x.alter(0, 2, 2));
        Check.index("alter", () -> x.alter(0, 0, 4));
        Check.index("alter", () -> x.alter(0, 0, -1));
        Check.index("alter", () -> x.alter(1, 0, 0));
        Check.argument("alter", () -> x.alter(0, 0, 0));
        Check.argument("alter", () -> x.alter(0, 0, 3));
        Check.same("a set", x.faults(0, 2), x.faults(0, 0));
        Check.same("alter", x.alter(0, 0, 2), 1);
        Check.same("gate", x.gate(0, 0, 0), 2);
        Check.same("no set", x.faults(0, 2), -1);
        Check.state("no set", () -> x.pattern(0, 0));
        Check.same("layout stays", x.found(0, 0), 1);
        Check.same("an OR now", x.run(0, 2), 1);
        Check.same("proves", x.proves(0, 0), 1);
        Check.same("witness", x.witness(0), 1);
        Check.same("its time", x.arrival(0, 3, true), late + 1);
        Check.same("alter", x.alter(0, 0, 2), 2);
        Check.same("alter", x.alter(0, 0, 1), 2);
        Check.same("proves", x.proves(0, 0), 0);
    }

    public static void main(String[] args) {
        pair();
        numbers();
        failures();
        tooMany();
        ways();
        played();
        altered();
        Check.finish("ChipTest");
    }
}
