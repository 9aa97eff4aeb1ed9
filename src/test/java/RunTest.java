/** Promises 14 to 19: clocks, states, machines compared, witnesses. */
public final class RunTest {
    private static void clocks() {
        ChipFlow x = new ChipFlow();
        Check.design(x, Check.COUNTER);
        Check.same("beginning", x.state(0), 2);
        int state = 2;
        int[] inputs = {1, 1, 0, 1, 1, 1, 1, 3, 1, 2, 1};
        for (int input : inputs) {
            Check.same("play " + input, x.play(0, input), state | (state == 7 ? 8 : 0));
            state = (input & 2) != 0 ? 0 : state + input & 7;
            Check.same("state", x.state(0), state);
        }
        Check.argument("play", () -> x.play(0, 4));
        Check.argument("play", () -> x.play(0, -1));
        Check.index("play", () -> x.play(1, 9));
        Check.same("state stays", x.state(0), state);
        Check.same("restart", x.restart(0), state);
        Check.same("restarted", x.state(0), 2);
        Check.same("restart", x.restart(0), 2);
        Check.index("state", () -> x.state(-1));
        Check.index("restart", () -> x.restart(6));
        Check.design(x, "module m { out y = 1@1 ; }");
        Check.same("no inputs", x.play(1, 0), 1);
        Check.argument("no inputs", () -> x.play(1, 1));
    }

    private static void witness(ChipFlow x, int... due) {
        for (int k = 0; k < due.length; k++) {
            Check.same("witness " + k, x.witness(k), due[k]);
        }
        Check.index("witness", () -> x.witness(due.length));
        Check.index("witness", () -> x.witness(-1));
    }

    private static void compared() {
        ChipFlow x = new ChipFlow();
        Check.design(x, Check.COUNTER);
        Check.design(x, Check.COUNTER.replace("n == 7@3", "n.0 & n.1 & n.2"));
        Check.design(x, Check.COUNTER.replace("n == 7@3", "n == 6@3"));
        Check.design(x, Check.COUNTER.replace("reg n : 3 = 2", "reg n : 3 = 3"));
        Check.design(x, "module m { in a : 2 ; out y : 3 = 0@3 ; }");
        Check.design(x, "module m { in a : 3 ; out y : 4 = 0@4 ; }");
        Check.same("never", x.never(0, 3), 6);
        witness(x, 1, 1, 1, 1, 1, 0);
        Check.same("equal", x.equal(0, 1), 0);
        witness(x);
        Check.same("equal", x.equal(0, 2), 5);
        witness(x, 1, 1, 1, 1, 0);
        x.play(0, 1);
        Check.same("from the beginnings", x.equal(2, 0), 5);
        Check.same("at once", x.equal(0, 3), 1);
        witness(x, 0);
        Check.argument("equal", () -> x.equal(0, 4));
        Check.argument("equal", () -> x.equal(5, 0));
        Check.index("equal", () -> x.equal(0, 6));
        Check.index("equal", () -> x.equal(-1, 0));
        Check.index("never", () -> x.never(0, 4));
        Check.index("never", () -> x.never(0, -1));
        Check.index("never", () -> x.never(6, 0));
        witness(x, 0);
        Check.same("of itself", x.equal(3, 3), 0);
        witness(x);
        Check.same("never", x.never(4, 2), 0);
        witness(x);
        Check.same("state stays", x.state(0), 3);
        x.drop(0, 5);
        Check.same("at the first clock", x.never(3, 0), 1);
        x.drop(0, 3);
        witness(x, 0);
    }

    private static void leastWitness() {
        ChipFlow x = new ChipFlow();
        // Two ways of three clocks lead to the alarm: 3 0 2 and 1 2 1; the first clock counts first.
        Check.design(x, "module m { in a : 2 ; reg s : 3 ; out alarm = s == 2@3 & a == 2@2 | s == 4@3 & a == 1@2 ; "
                + "s <- s == 0@3 ? (a == 3@2 ? 1@3 : a == 1@2 ? 3@3 : 0@3) : "
                + "s == 1@3 ? (a == 0@2 ? 2@3 : 0@3) : s == 3@3 ? (a == 2@2 ? 4@3 : 0@3) : 0@3 ; }");
        Check.same("never", x.never(0, 0), 3);
        witness(x, 1, 2, 1);
        Check.design(x, "module m { in a : 2 ; out q = 0@1 ; }");
        Check.same("equal", x.equal(1, 0), 3);
        witness(x, 1, 2, 1);
        // A counter of six bits against one that also counts, to the last state but one.
        Check.design(x, "module m { reg s : 6 ; s <- s + 1@6 ; out y = s == 63@6 ; }");
        Check.design(x, "module m { reg s : 6 ; s <- s + 3@6 ; out y = s == 63@6 ; }");
        Check.same("longest", x.never(2, 0), 64);
        Check.same("against another pace", x.equal(2, 3), 22);
    }

    public static void main(String[] args) {
        clocks();
        compared();
        leastWitness();
        Check.finish("RunTest");
    }
}
