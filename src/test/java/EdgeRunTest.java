/** Section 3 and promises 14 to 19: inputs at their bounds, the shortest and the longest runs, no witness. */
public final class EdgeRunTest {
    private static final int LEAST = -2147483648;
    private static final int MOST = 2147483647;
    private static final int[] NOWHERE = {LEAST, -1, 1, 6, MOST};

    private static ChipFlow house(String... texts) {
        ChipFlow x = new ChipFlow();
        for (String text : texts) {
            Check.same("design of " + text, Check.design(x, text) >= 0, true);
        }
        return x;
    }

    /** 14: the input is not below 2 to the bits of inputs, or below 0. */
    private static void inputs() {
        for (int bits = 0; bits <= 12; bits++) {
            StringBuilder text = new StringBuilder("module m { ");
            for (int k = 0; k < bits; k++) {
                text.append("in i").append(k).append(" ; ");
            }
            ChipFlow x = house(text + "out y = " + (bits == 0 ? "1@1" : "i" + (bits - 1)) + " ; out z = "
                    + (bits == 0 ? "1@1" : "i0") + " ; }");
            Check.same("14: the least input", x.play(0, 0), bits == 0 ? 3 : 0);
            Check.same("14: the largest input", x.play(0, (1 << bits) - 1), 3);
            int[] wrong = {1 << bits, -1, LEAST, MOST};
            for (int input : wrong) {
                Check.noArgument(x, "14: input " + input, () -> x.play(0, input));
            }
        }
    }

    /** 14 to 16: a clock gives the registers their next values; no such design. */
    private static void states() {
        ChipFlow x = house("module m { in a : 6 ; reg r : 6 = 33 ; r <- a ; out y : 6 = r ; out z : 6 = r ^ a ; }");
        Check.same("15: the beginning", x.state(0), 33);
        Check.same("14: outputs are of before the clock", x.play(0, 63), 33 | (33 ^ 63) << 6);
        Check.same("15: the largest state", x.state(0), 63);
        Check.same("14: play", x.play(0, 0), 63 | 63 << 6);
        Check.same("15: the least state", x.state(0), 0);
        x.play(0, 17);
        Check.noArgument(x, "14: a refused clock", () -> x.play(0, 64));
        Check.same("15: it was no clock", x.state(0), 17);
        Check.same("16: the state before", x.restart(0), 17);
        Check.same("15: the beginning again", x.state(0), 33);
        Check.same("16: the state before", x.restart(0), 33);
        for (int d : NOWHERE) {
            Check.noIndex(x, "14: design " + d, () -> x.play(d, 0));
            Check.noIndex(x, "14: design " + d + " before the input", () -> x.play(d, 64));
            Check.noIndex(x, "15: design " + d, () -> x.state(d));
            Check.noIndex(x, "16: design " + d, () -> x.restart(d));
        }
    }

    /** 14: sixteen outputs and six registers at once. */
    private static void widestClock() {
        ChipFlow x = house("module m { in a : 6 ; reg r : 6 ; r <- !a ; out y : 8 = 255@8 ; out z : 6 = r ; out w : 2 = 2@2 ; }");
        Check.same("14: outputs", x.play(0, 0), 255 | 0 << 8 | 2 << 14);
        Check.same("15: state", x.state(0), 63);
        Check.same("14: outputs", x.play(0, 63), 255 | 63 << 8 | 2 << 14);
        Check.same("15: state", x.state(0), 0);
    }

    private static void witness(ChipFlow x, int... due) {
        for (int k = 0; k < due.length; k++) {
            Check.same("19: witness " + k, x.witness(k), due[k]);
        }
        int[] none = {LEAST, -1, due.length, due.length + 1, MOST};
        for (int k : none) {
            Check.noIndex(x, "19: witness " + k, () -> x.witness(k));
        }
    }

    /** 17: they have not as many bits of inputs, or of outputs; no such design. */
    private static void unlike() {
        ChipFlow x = house("module m { in a : 3 ; out y : 2 = 0@2 ; }", "module m { in a : 2 ; out y : 2 = 0@2 ; }",
                "module m { in a : 3 ; out y : 3 = 0@3 ; }", "module m { in a ; in b ; in c ; reg r ; out y = r ; out z = b ; }");
        Check.same("17: as many bits, in other names, and registers besides", x.equal(0, 3), 1);
        witness(x, 2);
        int[][] unlike = {{0, 1}, {1, 0}, {0, 2}, {2, 0}, {1, 2}, {3, 1}, {3, 2}};
        for (int[] pair : unlike) {
            Check.noArgument(x, "17: unlike", () -> x.equal(pair[0], pair[1]));
        }
        int[] none = {LEAST, -1, 4, 6, MOST};
        for (int d : none) {
            Check.noIndex(x, "17: design " + d, () -> x.equal(0, d));
            Check.noIndex(x, "17: design " + d, () -> x.equal(d, 0));
            Check.noIndex(x, "17: design " + d, () -> x.equal(d, d));
            Check.noIndex(x, "18: design " + d, () -> x.never(d, 0));
        }
        witness(x, 2);
    }

    /** 17: 0 if they never differ, and no witness; 1 if they differ at once. */
    private static void shortest() {
        ChipFlow x = house("module m { in a : 2 ; out y = a.0 & a.1 ; }", "module m { in a : 2 ; out y = a == 3@2 ; }",
                "module m { in a : 2 ; out y = a == 2@2 ; }", "module m { out y = 0@1 ; }", "module m { out y = 1@1 ; }");
        Check.same("17: never", x.equal(0, 1), 0);
        witness(x);
        Check.same("17: at the first clock", x.equal(0, 2), 1);
        witness(x, 2);
        Check.same("17: a design and itself", x.equal(2, 2), 0);
        witness(x);
        Check.same("17: without inputs", x.equal(3, 4), 1);
        witness(x, 0);
        Check.same("17: the other way round", x.equal(4, 3), 1);
        witness(x, 0);
    }

    /** 17: sequences of periods 64 and 63 that agree as long as may be: 125 clocks. */
    private static void longest() {
        ChipFlow x = house("module m { reg s : 6 ; s <- s + 1@6 ; out y = s == 62@6 ; }",
                "module m { reg s : 6 ; s <- s == 62@6 ? 0@6 : s + 1@6 ; out y = s == 62@6 ; }",
                "module m { reg s : 6 ; s <- s + 1@6 ; out y = s == 63@6 ; }");
        Check.same("17: the 126th clock", x.equal(0, 1), 126);
        witness(x, new int[126]);
        Check.same("17: the other way round", x.equal(1, 0), 126);
        Check.same("18: the last state of all", x.never(2, 0), 64);
        witness(x, new int[64]);
    }

    /** 17: all 4096 pairs of states are met, and no difference. */
    private static void allPairs() {
        ChipFlow x = house("module m { in a : 6 ; reg s : 6 ; s <- s + a ; out y = s == s + 1@6 ; }",
                "module m { in a : 6 ; reg s : 6 ; s <- s ^ a ^ 1@6 ; out y = 0@1 ; }",
                "module m { in a : 6 ; reg s : 6 = 63 ; s <- s ^ a ; out y = s == 0@6 & a == 63@6 ; }",
                "module m { in a : 6 ; reg s : 6 ; s <- s + a ; out y = s == 0@6 & a == 63@6 ; }");
        Check.same("17: never", x.equal(0, 1), 0);
        witness(x);
        // The one is in 0 at the first clock, the other only behind an input of 63.
        Check.same("17: at once, with the largest input", x.equal(2, 3), 1);
        witness(x, 63);
        Check.same("17: at once, against the silent one", x.equal(3, 0), 1);
        Check.same("18: at the second clock", x.never(2, 0), 2);
        witness(x, 63, 63);
    }

    /** 18: no such bit; 0 if it can never be 1, the first clock if it is at once. */
    private static void bits() {
        ChipFlow x = house("module m { in a : 12 ; out y = 1@1 ; }".replace("a : 12", "a : 8 ; in b : 4"),
                "module m { in a : 2 ; reg r : 2 ; r <- r.0 ? 3@2 : a ; out y = 0@1 ; out z = r.0 & !r.1 ; out w : 8 = 128@8 ; "
                + "out v : 6 = 32@6 ; }");
        Check.same("18: at once", x.never(0, 0), 1);
        witness(x, 0);
        Check.same("18: never", x.never(1, 0), 0);
        witness(x);
        Check.same("18: at the second clock", x.never(1, 1), 2);
        witness(x, 1, 0);
        for (int k = 2; k < 16; k++) {
            Check.same("18: output " + k, x.never(1, k), k == 9 || k == 15 ? 1 : 0);
        }
        witness(x, 0);
        int[] none = {LEAST, -1, 16, MOST};
        for (int k : none) {
            Check.noIndex(x, "18: output " + k, () -> x.never(1, k));
        }
        Check.noIndex(x, "18: output 1 of one", () -> x.never(0, 1));
        witness(x, 0);
    }

    /** THE WITNESS: of all the least, the first clock's first, also where a later clock would like another state. */
    private static void leastOfAll() {
        ChipFlow x = house("module m { in a : 2 ; reg s : 2 ; s <- s == 0@2 ? (a == 0@2 ? 0@2 : a == 1@2 ? 2@2 : 1@2) : s ; "
                + "out y = s == 1@2 & a == 0@2 | s == 2@2 & a == 3@2 ; }");
        // 1 then 3 is before 2 then 0.
        Check.same("18: never", x.never(0, 0), 2);
        witness(x, 1, 3);
    }

    /** 17 to 19: a refused call leaves the witness; a comparison does not touch the states. */
    private static void whatStays() {
        ChipFlow x = house(Check.COUNTER, Check.COUNTER.replace("= 2 ;", "= 5 ;"), Check.PAIR);
        x.play(0, 1);
        x.play(1, 2);
        Check.same("18: never", x.never(0, 3), 6);
        Check.noArgument(x, "17: unlike", () -> x.equal(0, 2));
        Check.noIndex(x, "17: no design", () -> x.equal(0, 3));
        Check.noIndex(x, "18: no bit", () -> x.never(0, 4));
        witness(x, 1, 1, 1, 1, 1, 0);
        Check.same("15: state", x.state(0), 3);
        Check.same("15: state", x.state(1), 0);
        x.drop(0, 0);
        witness(x, 1, 1, 1, 1, 1, 0);
        Check.same("17: from the beginnings", x.equal(1, 1), 0);
        witness(x);
    }

    public static void main(String[] args) {
        inputs();
        states();
        widestClock();
        unlike();
        shortest();
        longest();
        allPairs();
        bits();
        leastOfAll();
        whatStays();
        Check.finish("EdgeRunTest");
    }
}
