/** Section 8 and promises 43 to 45: quarters of wire, ends, forty false pairs, forty paths, equal lengths. */
public final class EdgeTimeTest {
    private static final int LEAST = -2147483648;
    private static final int MOST = 2147483647;
    private static final int[] NO_CHIPS = {LEAST, -1, 1, 4, MOST};

    /** 43: no such chip, net. */
    private static void numbersOfNets() {
        ChipFlow x = Check.chip(Check.PAIR, Check.NAND);
        int[] none = {LEAST, -1, 4, MOST};
        for (int net : none) {
            Check.noIndex(x, "43: net " + net, () -> x.arrival(0, net, true));
            Check.noIndex(x, "43: net " + net, () -> x.arrival(0, net, false));
        }
        for (int c : NO_CHIPS) {
            Check.noIndex(x, "43: chip " + c, () -> x.arrival(c, 0, true));
            Check.noIndex(x, "44: chip " + c, () -> x.falsify(c, 0, 0));
            Check.noIndex(x, "45: chip " + c, () -> x.path(c, 0, 0));
        }
        Check.same("43: the first net", x.arrival(0, 0, true), 0);
        Check.same("43: the last net", x.arrival(0, 3, true), 7);
    }

    /** A gate's TIME: its net's wire / 4 (downward; 0 without places). */
    private static void quarters() {
        ChipFlow x = Check.chip(Check.PAIR, Check.NAND);
        // The nand takes 3 and a pin, the inverter 2 and a pin; its net goes from X 5, Y 1 to X W + 1, Y 0.
        Check.same("43: without places", x.arrival(0, 3, true), 4 + 3);
        for (int sites = 5; sites <= 60; sites++) {
            x.place(0, sites);
            Check.same("32: the nand's wire", x.wire(0, 2), 1);
            Check.same("32: the inverter's wire", x.wire(0, 3), sites - 4 + 1);
            Check.same("43: on " + sites + " sites", x.arrival(0, 3, true), 4 + 3 + (sites - 3) / 4);
            Check.same("45: length", x.path(0, 0, -1), 4 + 3 + (sites - 3) / 4);
        }
    }

    /** A flop's TIME is 3 and likewise, an input's 0, whatever hangs on its net. */
    private static void firstNets() {
        ChipFlow x = Check.chip("module m { in a ; in b ; reg r : 3 ; r <- r & 1@3 ; out y : 4 = 0@4 ; out z = a ; out w = a ; out v = r.0 ; "
                + "out u = r.0 ; }", Check.NAND);
        int[] due = {0, 0, 3 + 3, 3, 3};
        for (int net = 0; net < 5; net++) {
            Check.same("43: late " + net, x.arrival(0, net, true), due[net]);
            Check.same("43: early " + net, x.arrival(0, net, false), due[net]);
        }
        x.place(0, 14);
        Check.same("32: from X 1, Y 1 to X 15, Y 7", x.wire(0, 2), 14 + 6);
        int[] placed = {0, 0, 3 + 3 + 5, 3, 3};
        for (int net = 0; net < 5; net++) {
            Check.same("43: placed " + net, x.arrival(0, net, true), placed[net]);
        }
    }

    /** ARRIVAL, late or early: the greatest or least of the inputs' nets. */
    private static void lateAndEarly() {
        ChipFlow x = Check.chip("module m { in a ; in b ; in c ; out y = a & b & c ; }", "cell and (a,b) = a & b , 5 , 7 ;");
        // The first AND takes 7 and a pin, so does the second; c comes at 0.
        Check.same("43: late", x.arrival(0, 4, true), 16);
        Check.same("43: early", x.arrival(0, 4, false), 8);
        Check.same("43: late of the first", x.arrival(0, 3, true), 8);
        Check.same("43: early of the first", x.arrival(0, 3, false), 8);
    }

    private static void path(ChipFlow x, int k, int length, int end, int... nets) {
        Check.same("45: length of " + k, x.path(0, k, -1), length);
        Check.same("45: end of " + k, x.path(0, k, -2), end);
        Check.same("45: nets of " + k, x.path(0, k, -3), nets.length);
        for (int n = 0; n < nets.length; n++) {
            Check.same("45: net " + n + " of " + k, x.path(0, k, n), nets[n]);
        }
        int[] behind = {nets.length, nets.length + 1, 200, 10000, MOST};
        for (int n : behind) {
            Check.same("45: behind the last net", x.path(0, k, n), -1);
        }
    }

    private static void noPath(ChipFlow x, int k) {
        int[] whats = {-3, -2, -1, 0, 1, MOST};
        for (int what : whats) {
            Check.same("45: no path " + k, x.path(0, k, what), -1);
        }
    }

    /** 45: k is not 0 .. 39, or what below -3. */
    private static void numbersOfPaths() {
        ChipFlow x = Check.chip(Check.PAIR, Check.NAND);
        int[] none = {LEAST, -1, 40, MOST};
        for (int k : none) {
            Check.noIndex(x, "45: path " + k, () -> x.path(0, k, 0));
        }
        int[] whats = {LEAST, -5, -4};
        for (int what : whats) {
            Check.noIndex(x, "45: what " + what, () -> x.path(0, 0, what));
            Check.noIndex(x, "45: what " + what + " of no path", () -> x.path(0, 39, what));
        }
        path(x, 0, 7, 0, 0, 2, 3);
        path(x, 1, 7, 0, 1, 2, 3);
        noPath(x, 2);
        noPath(x, 39);
    }

    /** An AND of twelve inputs, thrice an output, and so many outputs of inputs: 36 paths and these. */
    private static ChipFlow paths(int more) {
        StringBuilder and = new StringBuilder("a.0");
        for (int k = 1; k < 12; k++) {
            and.append(k < 8 ? " & a." + k : " & b." + (k - 8));
        }
        return Check.chip("module m { in a : 8 ; in b : 4 ; " + Texts.many("out y% = " + and + " ; ", 3) + Texts.many("out z% = a.% ; ", more)
                + "}", "cell and (a,b) = a & b , 2 , 1 ;");
    }

    /** Forty paths at most are told: 39, 40 and 41 of them. */
    private static void fortyPaths() {
        for (int more = 2; more <= 6; more++) {
            ChipFlow x = paths(more);
            // Outputs of inputs have length 0: they stand behind all others, by their inputs.
            for (int k = 36; k < 40; k++) {
                if (k < 36 + more) {
                    path(x, k, 0, 3 + k - 36, k - 36);
                } else {
                    noPath(x, k);
                }
            }
            Check.same("45: the longest of all", x.path(0, 0, -3), 12);
            Check.same("45: its three ends in order", x.path(0, 0, -2) * 100 + x.path(0, 1, -2) * 10 + x.path(0, 2, -2), 12);
            Check.noIndex(x, "45: no path 40", () -> x.path(0, 40, -1));
        }
        ChipFlow none = Check.chip("module m { in a ; out y = 1@1 ; reg r ; r <- 0@1 ; }", Check.NAND);
        noPath(none, 0);
    }

    /** Paths that are false do not count; those behind them move up. */
    private static void falseOnes() {
        ChipFlow x = paths(6);
        Check.same("44: falsify", x.falsify(0, 3, 0), true);
        for (int k = 35; k < 40; k++) {
            path(x, k, 0, 3 + k - 35, k - 35);
        }
        Check.same("44: falsify", x.falsify(0, 0, 3), true);
        path(x, 35, 0, 4, 1);
        path(x, 39, 0, 8, 5);
        Check.same("44: a pair without a path", x.falsify(0, 11, 3), true);
        path(x, 39, 0, 8, 5);
    }

    /** 44: no such first net, or end (tied ones are none). */
    private static void numbersOfEnds() {
        ChipFlow x = Check.chip("module m { in a ; in b ; reg r : 2 ; r <- a ? 2@2 : 0@2 ; out y = a & b ; out z = 1@1 ; out w = r.0 ; }", Check.NAND);
        // Nets 0 a, 1 b, 2 and 3 registers, 4 and 5 gates; ends 0 y, 1 tied, 2 w, 3 tied, 4 the next value of r.1.
        int[] noNets = {LEAST, -1, 4, 5, 6, MOST};
        for (int net : noNets) {
            Check.noIndex(x, "44: net " + net, () -> x.falsify(0, net, 0));
        }
        int[] noEnds = {LEAST, -1, 1, 3, 5, 31, 32, MOST};
        for (int end : noEnds) {
            Check.noIndex(x, "44: end " + end, () -> x.falsify(0, 0, end));
        }
        int[] ends = {0, 2, 4};
        for (int net = 0; net < 4; net++) {
            for (int end : ends) {
                Check.same("44: it was none", x.falsify(0, net, end), true);
                Check.same("44: it was one", x.falsify(0, net, end), false);
            }
        }
        noPath(x, 0);
    }

    /** 44: they were not, and there are 40. */
    private static void fortyPairs() {
        ChipFlow x = Check.chip("module m { in a : 2 ; out y : 8 = a.0 ? 255@8 : 0@8 ; out z : 8 = a.1 ? 255@8 : 0@8 ; reg r : 6 ; "
                + "r <- a.0 ? 63@6 : 0@6 ; }", Check.NAND);
        int told = 0;
        for (int net = 0; net < 8 && told < 39; net++) {
            for (int end = 0; end < 22 && told < 39; end++) {
                Check.same("44: falsify", x.falsify(0, net, end), true);
                told++;
            }
        }
        Check.same("44: an old one of 39", x.falsify(0, 0, 0), false);
        Check.same("44: the fortieth", x.falsify(0, 7, 21), true);
        Check.noRoom(x, "44: the 41st", () -> x.falsify(0, 7, 20));
        Check.noRoom(x, "44: the 41st", () -> x.falsify(0, 6, 0));
        Check.same("44: old ones still answer", x.falsify(0, 7, 21), false);
        Check.same("44: old ones still answer", x.falsify(0, 0, 0), false);
        Check.noIndex(x, "44: no net comes first", () -> x.falsify(0, 8, 0));
        Check.noIndex(x, "44: no end comes first", () -> x.falsify(0, 0, 22));
        x.place(0, 20);
        x.route(0, 0);
        Check.noRoom(x, "44: places and wires leave them", () -> x.falsify(0, 7, 20));
        x.drop(2, 0);
        x.map(0, 0);
        Check.same("44: a new chip has none", x.falsify(0, 7, 20), true);
    }

    /** 2 more for a next value; of one length by nets, the end counting as a net of 10000 and its number. */
    private static void equalLengths() {
        ChipFlow x = Check.chip("module m { in a ; reg r ; r <- a ; out y = !a ; out z = a ; out w = a ; }", "cell inv (a) = !a , 1 , 1 ;");
        // Nets a 0, r 1, the inverter's 2, which takes 1 and a pin.
        path(x, 0, 2, 0, 0, 2);
        path(x, 1, 2, 3, 0);
        path(x, 2, 0, 1, 0);
        path(x, 3, 0, 2, 0);
        noPath(x, 4);
        ChipFlow y = Check.chip("module m { in b : 2 ; reg r ; r <- r ; out y = b.1 ; out z = b.0 ; out w = r ; }", Check.NAND);
        path(y, 0, 3 + 2 + 2, 3, 2);
        path(y, 1, 3 + 2, 2, 2);
        path(y, 2, 0, 1, 0);
        path(y, 3, 0, 0, 1);
        noPath(y, 4);
    }

    /** A path goes over gates from each first net; the longest first, then by nets. */
    private static void overGates() {
        ChipFlow x = Check.chip("module m { in a ; in b ; in c ; out y = a & b & c ; }", "cell and (a,b) = a & b , 5 , 7 ;");
        path(x, 0, 16, 0, 0, 3, 4);
        path(x, 1, 16, 0, 1, 3, 4);
        path(x, 2, 8, 0, 2, 4);
        noPath(x, 3);
    }

    /** A machine without inputs: net 0 is a register's. */
    private static void noInputs() {
        ChipFlow x = Check.chip("module m { reg r ; r <- !r ; out y = r ; }", "cell inv (a) = !a , 1 , 7 ;");
        // The register's net has three pins, the inverter's two.
        Check.same("43: the register", x.arrival(0, 0, true), 3 + 2);
        Check.same("43: the inverter", x.arrival(0, 1, false), 5 + 7 + 1);
        path(x, 0, 5 + 8 + 2, 1, 0, 1);
        path(x, 1, 5, 0, 0);
        noPath(x, 2);
    }

    /** Paths of chips with many more than forty, with false pairs of all sorts, against all paths there are. */
    private static void allOfThem() {
        String[] designs = {Check.COUNTER, "module m { in a : 3 ; in b : 3 ; out s : 3 = a + b ; out e = a == b ; out z = a.2 ; }",
            "module m { in a : 2 ; reg r : 4 ; r <- r + (a.0 ? 3@4 : 1@4) ; out y = r == 9@4 ; out t = 1@1 ; }",
            "module m { in a ; in b ; in c ; reg r ; r <- a ^ b ^ c ^ r ; out y = r & a ; }"};
        String[] libraries = {Check.NAND, Check.LIBRARY};
        for (String design : designs) {
            for (String library : libraries) {
                ChipFlow x = Check.chip(design, library);
                Model m = new Model(x, 0, 0, 0);
                boolean[][] wrong = new boolean[m.first][m.ends()];
                TimeTest.arrivals(m);
                TimeTest.allPaths(m, wrong);
                // All ends of a first net become false, one after the other: the longest paths go.
                for (int turn = 0; turn < 36; turn++) {
                    int first = x.path(0, turn % 3, 0);
                    int end = x.path(0, turn % 3, -2);
                    if (first >= 0 && end >= 0) {
                        Check.same("44: falsify", x.falsify(0, first, end), true);
                        wrong[first][end] = true;
                        TimeTest.allPaths(m, wrong);
                    }
                }
                x.place(0, 50);
                TimeTest.allPaths(m, wrong);
            }
        }
    }

    /** The first net leads to the first register alone, and stands before more than forty paths of its length. */
    private static void crowded() {
        StringBuilder text = new StringBuilder("module m { in c ; in a : 5 ; reg r : 6 ; ");
        int made = 0;
        for (int i = 0; i < 5; i++) {
            for (int j = i + 1; j < 5; j++) {
                text.append("out y").append(made).append(" = a.").append(i).append(" & a.").append(j).append(" ; ");
                made++;
            }
        }
        text.append("let l = a.0 & a.1 & a.2 ; let k = a.1 & a.2 & a.3 ; let h = a.2 & a.3 & a.4 ; out u = l ; out v = k ; out w = h ; ");
        text.append("r <- (c ? 1@6 : 0@6) | (l ? 2@6 : 0@6) | (k ? 4@6 : 0@6) | (h ? 8@6 : 0@6) | (a.0 ? 16@6 : 0@6) ; }");
        ChipFlow x = Check.chip(text.toString(), "cell and (a,b) = a & b , 1 , 1 ;");
        Model m = new Model(x, 0, 0, 0);
        boolean[][] wrong = new boolean[m.first][m.ends()];
        TimeTest.allPaths(m, wrong);
        int place = -1;
        for (int k = 0; k < 40; k++) {
            place = x.path(0, k, 0) == 0 ? k : place;
        }
        Check.same("45: the path of net 0 is among them", place >= 0, true);
        Check.same("45: its end", x.path(0, place, -2), 13);
        Check.same("45: its length", x.path(0, place, -1), 2);
        Check.same("45: there are more of its length", x.path(0, 39, -1), 2);
    }

    public static void main(String[] args) {
        numbersOfNets();
        quarters();
        firstNets();
        lateAndEarly();
        numbersOfPaths();
        fortyPaths();
        falseOnes();
        numbersOfEnds();
        fortyPairs();
        equalLengths();
        overGates();
        noInputs();
        crowded();
        allOfThem();
        Check.finish("EdgeTimeTest");
    }
}
