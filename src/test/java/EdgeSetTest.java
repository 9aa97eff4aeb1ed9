/** Section 10 and promises 48 to 54: faults and patterns at their bounds, empty sets, no set, suspects. */
public final class EdgeSetTest {
    private static final int LEAST = -2147483648;
    private static final int MOST = 2147483647;
    private static final int[] NO_CHIPS = {LEAST, -1, 1, 4, MOST};

    /** 48 to 54: no such chip, fault, pattern, what. */
    private static void numbers() {
        ChipFlow x = Check.chip(Check.PAIR, Check.NAND);
        for (int turn = 0; turn < 2; turn++) {
            int[] noFaults = {LEAST, -1, 14, MOST};
            for (int f : noFaults) {
                Check.noIndex(x, "48: fault " + f, () -> x.test(0, f));
                Check.noIndex(x, "49: fault " + f, () -> x.shows(0, 0, f));
                Check.noIndex(x, "49: fault " + f + " before the pattern", () -> x.shows(0, 4, f));
            }
            int[] patterns = {LEAST, -1, 4, MOST};
            for (int p : patterns) {
                Check.noArgument(x, "49: pattern " + p, () -> x.shows(0, p, 13));
            }
            int[] whats = {LEAST, -1, 3, MOST};
            for (int what : whats) {
                Check.noArgument(x, "54: what " + what, () -> x.faults(0, what));
            }
            for (int c : NO_CHIPS) {
                Check.noIndex(x, "48: chip " + c, () -> x.test(c, 0));
                Check.noIndex(x, "49: chip " + c, () -> x.shows(c, 4, 0));
                Check.noIndex(x, "50: chip " + c, () -> x.tests(c));
                Check.noIndex(x, "51: chip " + c, () -> x.pattern(c, 0));
                Check.noIndex(x, "52: chip " + c, () -> x.fails(c, 0, true));
                Check.noIndex(x, "53: chip " + c, () -> x.suspect(c, 0));
                Check.noIndex(x, "54: chip " + c, () -> x.faults(c, 3));
            }
            x.tests(0);
        }
        Check.same("48: the first fault", x.test(0, 0), 3);
        Check.same("48: the last fault", x.test(0, 13), 3);
        Check.same("49: the largest pattern", x.shows(0, 3, 13), true);
        Check.same("49: the least pattern", x.shows(0, 0, 13), false);
    }

    /** Of a chip without a set numbers from 0 on of patterns count as there. */
    private static void noSet(ChipFlow x) {
        int[] there = {0, 1, 4095, 4096, MOST};
        for (int k : there) {
            Check.noState(x, "51: pattern " + k, () -> x.pattern(0, k));
            Check.noState(x, "52: fails " + k, () -> x.fails(0, k, true));
            Check.noState(x, "52: fails " + k, () -> x.fails(0, k, false));
            Check.noState(x, "53: suspect " + k, () -> x.suspect(0, k));
        }
        int[] none = {LEAST, -1};
        for (int k : none) {
            Check.noIndex(x, "51: pattern " + k, () -> x.pattern(0, k));
            Check.noIndex(x, "52: fails " + k, () -> x.fails(0, k, true));
            Check.noIndex(x, "53: suspect " + k, () -> x.suspect(0, k));
        }
        Check.same("54: NONE without a set", x.faults(0, 2), -1);
    }

    /** 51: there is no set (or that went): alter() alone takes it. */
    private static void whenThereIsNone() {
        ChipFlow x = Check.chip(Check.PAIR, Check.NAND);
        noSet(x);
        Check.same("50: tests", x.tests(0), 3);
        x.fails(0, 1, true);
        int suspect = x.suspect(0, 0);
        Check.same("53: a suspect", suspect >= 0, true);
        Check.argument("24: a refused alter", () -> x.alter(0, 0, 0));
        Check.index("24: a refused alter", () -> x.alter(0, 0, 2));
        x.place(0, 9);
        x.improve(0, 1);
        x.route(0, 1);
        x.draw(0);
        x.move(0, 1, 4, 0);
        x.falsify(0, 0, 0);
        x.run(0, 3);
        x.reset(0);
        x.drop(0, 0);
        x.drop(1, 0);
        Check.same("51: it stays", x.pattern(0, 1), 2);
        Check.same("53: what fails stays", x.suspect(0, 0), suspect);
        x.alter(0, 0, 1);
        noSet(x);
        Check.same("50: a new set", x.tests(0), 3);
        Check.same("50: no pattern fails", x.suspect(0, 0), -1);
        x.fails(0, 0, true);
        Check.same("50: made again", x.tests(0), 3);
        Check.same("50: no pattern fails", x.fails(0, 0, false), false);
    }

    /** 51 to 53 of a set of three patterns. */
    private static void numbersOfPatterns() {
        ChipFlow x = Check.chip(Check.PAIR, Check.NAND);
        x.tests(0);
        x.fails(0, 2, true);
        int[] none = {LEAST, -1, 3, 4, MOST};
        for (int k : none) {
            Check.noIndex(x, "51: pattern " + k, () -> x.pattern(0, k));
            Check.noIndex(x, "52: fails " + k, () -> x.fails(0, k, true));
            Check.noIndex(x, "52: fails " + k, () -> x.fails(0, k, false));
        }
        Check.noIndex(x, "53: suspect -1", () -> x.suspect(0, -1));
        Check.noIndex(x, "53: the least number", () -> x.suspect(0, LEAST));
        Check.same("52: it did", x.fails(0, 2, true), true);
        Check.same("52: it did", x.fails(0, 2, false), true);
        Check.same("52: it did not", x.fails(0, 2, false), false);
        Check.same("53: not so many", x.suspect(0, 0), -1);
        Check.same("53: not so many", x.suspect(0, MOST), -1);
        int[] patterns = {3, 2, 1};
        for (int k = 0; k < 3; k++) {
            Check.same("51: pattern", x.pattern(0, k), patterns[k]);
        }
    }

    /** A set without patterns: no fault can be shown. */
    private static void emptySet() {
        ChipFlow x = Check.chip("module m { in a ; reg r ; r <- 1@1 ; out y = 0@1 ; }", Check.NAND);
        Check.same("54: faults", x.faults(0, 0), 4);
        Check.same("54: all are hidden", x.faults(0, 1), 4);
        for (int f = 0; f < 4; f++) {
            Check.same("48: none shows it", x.test(0, f), -1);
            for (int p = 0; p < 4; p++) {
                Check.same("49: tied ones never differ", x.shows(0, p, f), false);
            }
        }
        Check.same("54: no set", x.faults(0, 2), -1);
        Check.same("50: an empty set", x.tests(0), 0);
        Check.same("54: it shows none", x.faults(0, 2), 0);
        Check.noIndex(x, "51: no pattern", () -> x.pattern(0, 0));
        Check.noIndex(x, "52: no pattern", () -> x.fails(0, 0, true));
        Check.same("53: no suspect", x.suspect(0, 0), -1);
        ChipFlow none = Check.chip("module m { out y = 1@1 ; }", Check.NAND);
        Check.same("54: no faults", none.faults(0, 0), 0);
        Check.same("54: none hidden", none.faults(0, 1), 0);
        Check.noIndex(none, "48: no fault", () -> none.test(0, 0));
        Check.noIndex(none, "49: no fault", () -> none.shows(0, 0, 0));
        Check.same("50: an empty set", none.tests(0), 0);
        Check.same("53: no suspect", none.suspect(0, 0), -1);
    }

    private static void whole(String design, String library) {
        FaultTest.all(new Model(Check.chip(design, library), 0, 0, 0));
    }

    /** Patterns of 1, 5, 6, 7 and 12 bits; ends that are inputs, registers, tied, twice the same. */
    private static void wholeChips() {
        whole("module m { in a ; out y = !a ; out z = a ; }", Check.NAND);
        whole("module m { in a : 3 ; reg r : 2 ; r <- a.2 ? r + 1@2 : r ; out y = a == 5@3 | r.0 ; out z = 1@1 ; }", Check.LIBRARY);
        whole("module m { in a : 3 ; reg r : 3 = 5 ; r <- r ^ a ; out y = r.0 & a.1 | r.2 ; out z = r.1 ; out w = r.1 ; }", Check.NAND);
        whole("module m { in a : 7 ; out y = a.0 & a.1 | a.2 ^ a.3 ; out z = a.4 & !a.5 & a.6 ; }", Check.LIBRARY);
        StringBuilder and = new StringBuilder("a.0");
        for (int k = 1; k < 12; k++) {
            and.append(k < 6 ? " & a." + k : " & b." + (k - 6));
        }
        whole("module m { in a : 6 ; reg b : 6 ; out y = " + and + " ; b <- 63@6 ; }", "cell and (a,b) = a & b , 1 , 1 ;");
    }

    /**
     * Sums without a carry in which a fault reaches an end over two ways and may be lost there: one
     * pattern may be the last that shows the first fault, though others show all else that it shows.
     */
    private static void waysThatMeet() {
        String cells = "cell inv (a) = !a , 1 , 1 ; cell nand (a,b) = !(a & b) , 2 , 1 ; "
                + "cell nor (a,b) = !(a|b) , 2 , 1 ; cell xor (a,b) = a ^ b , 4 , 1 ; "
                + "cell xnor (a,b) = !(a^b) , 4 , 1 ; cell and (a,b) = a&b , 3 , 1 ; cell or (a,b) = a|b , 3 , 1 ;";
        String[] outputs = {"!a ^ (b ^ !c) & (b ^ a)", "(c ^ b | !b ^ a) ^ !a", "(!c ^ b) & (!b | a) ^ !a"};
        for (String y : outputs) {
            String design = "module m { in a ; in b ; in c ; out y = " + y + " ; }";
            whole(design, cells);
            ChipFlow x = Check.chip(design, cells);
            int gates = x.chip(0, 0);
            for (int g = 0; g < gates; g++) {
                int before = x.gate(0, g, 0);
                for (int cell = 1; cell < 7 && x.cell(0, before, 0) == 2; cell++) {
                    x.alter(0, g, cell);
                    FaultTest.all(new Model(x, 0, 0, 0));
                }
                x.alter(0, g, before);
            }
        }
    }

    /** Random chips of few bits. */
    private static void randomSets() {
        int made = 0;
        for (int seed = 0; seed < 3000 && made < 100; seed++) {
            PlainMachine machine = new PlainMachine(seed);
            if (machine.fault() == 0 && machine.inputs + machine.registers <= 6 && machine.graph.ands.size() < 80) {
                ChipFlow x = new ChipFlow();
                Check.library(x, Check.LIBRARY);
                Check.design(x, machine.text);
                if (x.map(0, 0) == 0 && x.chip(0, 0) > 1 && x.chip(0, 0) < 25) {
                    whole(machine.text, Check.LIBRARY);
                    made++;
                }
            }
        }
        Check.same("50: sets of random chips", made, 100);
    }

    /** Faults of the largest chip: 2 for each net and each input of a gate. */
    private static void mostFaults() {
        ChipFlow x = Check.chip(EdgeChipTest.chains(150), "cell and (a,b) = a & b , 2 , 1 ;");
        Check.same("54: faults", x.faults(0, 0), 2 * 162 + 4 * 150);
        Check.noIndex(x, "48: no more", () -> x.test(0, 924));
        // All gates are ANDs of all their inputs: the last gate's second input at 1 is shown if it alone is 0.
        Check.same("48: the last fault", x.test(0, 923) >= 0, true);
        int tests = x.tests(0);
        int shown = 0;
        for (int f = 0; f < 924; f++) {
            boolean any = false;
            for (int k = 0; k < tests && !any; k++) {
                any = x.shows(0, x.pattern(0, k), f);
            }
            shown += any ? 1 : 0;
            Check.same("48: fault " + f, x.test(0, f) >= 0, any);
        }
        Check.same("54: shown", x.faults(0, 2), shown);
        Check.same("54: hidden", x.faults(0, 1), 924 - shown);
    }

    public static void main(String[] args) {
        numbers();
        whenThereIsNone();
        numbersOfPatterns();
        emptySet();
        wholeChips();
        waysThatMeet();
        randomSets();
        mostFaults();
        Check.finish("EdgeSetTest");
    }
}
