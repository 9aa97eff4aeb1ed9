import java.util.ArrayList;
import java.util.List;

/** Promises 48 to 54: tests for each fault, the set, suspects. */
public final class FaultTest {
    private static void pair() {
        ChipFlow x = Check.chip(Check.PAIR, Check.NAND);
        Check.same("faults", x.faults(0, 0), 14);
        Check.same("none is hidden", x.faults(0, 1), 0);
        Check.same("no set", x.faults(0, 2), -1);
        // Nets a, b, the nand's, the inverter's; the nand's inputs, the inverter's input.
        int[] least = {3, 2, 3, 1, 0, 3, 3, 0, 3, 2, 3, 1, 0, 3};
        for (int f = 0; f < 14; f++) {
            Check.same("test " + f, x.test(0, f), least[f]);
        }
        Check.same("shows", x.shows(0, 3, 0), true);
        Check.same("shows", x.shows(0, 1, 0), false);
        Check.index("test", () -> x.test(0, 14));
        Check.index("test", () -> x.test(0, -1));
        Check.index("test", () -> x.test(1, 0));
        Check.index("shows", () -> x.shows(0, 4, 14));
        Check.argument("shows", () -> x.shows(0, 4, 13));
        Check.argument("shows", () -> x.shows(0, -1, 0));
        Check.argument("faults", () -> x.faults(0, 3));
        Check.argument("faults", () -> x.faults(0, -1));
        Check.index("faults", () -> x.faults(1, 3));
        Check.state("pattern", () -> x.pattern(0, 7));
        Check.index("pattern", () -> x.pattern(0, -1));
        Check.state("fails", () -> x.fails(0, 7, true));
        Check.index("fails", () -> x.fails(0, -1, true));
        Check.state("suspect", () -> x.suspect(0, 7));
        Check.index("suspect", () -> x.suspect(0, -1));
        Check.index("tests", () -> x.tests(1));
        // 3 first, 2 for a stuck at 1, 1 for b, 0 for the nand's net; 0 goes: 2 and 1 show it too.
        Check.same("tests", x.tests(0), 3);
        Check.same("pattern", x.pattern(0, 0), 3);
        Check.same("pattern", x.pattern(0, 1), 2);
        Check.same("pattern", x.pattern(0, 2), 1);
        Check.index("pattern", () -> x.pattern(0, 3));
        Check.same("shown by the set", x.faults(0, 2), 14);
        Check.same("all pass: no suspect", x.suspect(0, 0), -1);
        Check.same("fails", x.fails(0, 1, true), false);
        Check.same("fails", x.fails(0, 1, true), true);
        Check.same("a stuck at 1", x.suspect(0, 0), 1);
        Check.same("the nand's input too", x.suspect(0, 1), 9);
        Check.same("no more", x.suspect(0, 2), -1);
        Check.same("no more", x.suspect(0, 2147483647), -1);
        Check.same("fails", x.fails(0, 2, true), false);
        Check.same("the nand's net at 0", x.suspect(0, 0), 4);
        Check.same("fails", x.fails(0, 1, false), true);
        Check.same("b stuck at 1", x.suspect(0, 0), 3);
        Check.index("fails", () -> x.fails(0, 3, true));
        Check.index("suspect", () -> x.suspect(0, -1));
        Check.same("a new set: no pattern fails", x.tests(0), 3);
        Check.same("fails", x.fails(0, 2, false), false);
    }

    private static void hidden() {
        // Tied outputs never differ; nobody hears input b.
        ChipFlow x = Check.chip("module m { in a ; in b ; out y = a ; out z = 1@1 ; reg r = 1 ; r <- 0@1 ; }", Check.NAND);
        Check.same("faults", x.faults(0, 0), 6);
        Check.same("hidden", x.faults(0, 1), 4);
        int[] least = {1, 0, -1, -1, -1, -1};
        for (int f = 0; f < 6; f++) {
            Check.same("test", x.test(0, f), least[f]);
        }
        Check.same("tests", x.tests(0), 2);
        Check.same("pattern", x.pattern(0, 0), 1);
        Check.same("pattern", x.pattern(0, 1), 0);
        Check.same("shown", x.faults(0, 2), 2);
        Check.argument("a pattern has the state's bits, too", () -> x.shows(0, 8, 0));
        Check.same("and these", x.shows(0, 7, 0), true);
    }

    private static boolean isShown(boolean[] shows, List<Integer> set, int without) {
        for (int k = 0; k < set.size(); k++) {
            if (k != without && shows[set.get(k)]) {
                return true;
            }
        }
        return false;
    }

    /** Every fault and pattern of a chip, the set and its suspects, worked out anew. */
    static void all(Model m) {
        ChipFlow x = m.x;
        int patterns = 1 << m.first;
        int faults = m.faults();
        boolean[][] shows = new boolean[faults][patterns];
        int hidden = 0;
        List<Integer> set = new ArrayList<>();
        int[] tied = tiedOnes(m);
        for (int p = 0; p < patterns; p++) {
            int[] good = m.values(p, -1);
            for (int f = 0; f < faults; f++) {
                int[] bad = m.values(p, f);
                for (int e = 0; e < m.ends(); e++) {
                    shows[f][p] |= tied[e] >= 0 && good[tied[e]] != bad[tied[e]];
                }
            }
        }
        Check.same("54: faults", x.faults(0, 0), faults);
        for (int f = 0; f < faults; f++) {
            int least = -1;
            for (int p = patterns - 1; p >= 0; p--) {
                least = shows[f][p] ? p : least;
                if (x.shows(0, p, f) != shows[f][p]) {
                    Check.same("49: shows " + p + " " + f, x.shows(0, p, f), shows[f][p]);
                }
            }
            Check.same("48: test " + f, x.test(0, f), least);
            hidden += least < 0 ? 1 : 0;
            if (least >= 0 && !isShown(shows[f], set, -1)) {
                set.add(least);
            }
        }
        Check.same("54: hidden", x.faults(0, 1), hidden);
        reduce(shows, set);
        Check.same("50: tests", x.tests(0), set.size());
        for (int k = 0; k < set.size(); k++) {
            Check.same("51: pattern " + k, x.pattern(0, k), set.get(k));
        }
        Check.same("54: shown", x.faults(0, 2), faults - hidden);
        suspects(x, shows, set);
    }

    private static int[] tiedOnes(Model m) {
        int[] nets = new int[m.ends()];
        for (int e = 0; e < nets.length; e++) {
            nets[e] = m.endNet(e);
        }
        return nets;
    }

    private static void reduce(boolean[][] shows, List<Integer> set) {
        for (int k = set.size() - 1; k >= 0; k--) {
            boolean spare = true;
            for (boolean[] s : shows) {
                spare &= !isShown(s, set, -1) || isShown(s, set, k);
            }
            if (spare) {
                set.remove(k);
            }
        }
    }

    private static void suspects(ChipFlow x, boolean[][] shows, List<Integer> set) {
        for (int wanted = 0; wanted < shows.length; wanted += 1 + shows.length / 20) {
            for (int k = 0; k < set.size(); k++) {
                x.fails(0, k, shows[wanted][set.get(k)]);
            }
            int number = 0;
            for (int f = 0; f < shows.length; f++) {
                boolean suspect = isShown(shows[f], set, -1);
                for (int p : set) {
                    suspect &= shows[f][p] == shows[wanted][p];
                }
                if (suspect) {
                    Check.same("53: suspect " + number, x.suspect(0, number), f);
                    number++;
                }
            }
            Check.same("53: no more suspects", x.suspect(0, number), -1);
        }
    }

    private static void counter() {
        ChipFlow x = Check.chip(Check.COUNTER, Check.LIBRARY);
        all(new Model(x, 0, 0, 0));
        for (int g = 0; g < x.chip(0, 0); g++) {
            if (x.gate(0, g, 0) == 1) {
                x.alter(0, g, 2);
                all(new Model(x, 0, 0, 0));
                break;
            }
        }
        all(new Model(Check.chip("module m { in a : 7 ; out y = a.0 & a.1 & a.2 | a.3 ^ a.4 & !a.5 ; out z = a.6 == a.0 ; }",
                Check.NAND), 0, 0, 0));
    }

    private static void twoChips() {
        ChipFlow x = Check.chip(Check.PAIR, Check.NAND);
        Check.design(x, "module p { in a ; in b ; out y = a | b ; }");
        x.map(1, 0);
        x.tests(0);
        x.tests(1);
        Check.same("of the one", x.test(0, 0), 3);
        Check.same("of the other", x.test(1, 0), 1);
        x.fails(1, 0, true);
        Check.same("of the one", x.suspect(0, 0), -1);
        x.drop(2, 0);
        x.map(1, 0);
        Check.same("a new chip in its place", x.test(0, 0), 1);
        Check.state("without a set", () -> x.pattern(0, 0));
    }

    public static void main(String[] args) {
        pair();
        hidden();
        counter();
        twoChips();
        Check.finish("FaultTest");
    }
}
