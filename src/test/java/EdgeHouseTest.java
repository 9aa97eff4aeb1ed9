/** Promises 4 to 8: how many designs, libraries and chips there may be, their numbers, faults, what goes. */
public final class EdgeHouseTest {
    private static final int[] NOWHERE = {-2147483648, -1, 6, 2147483647};

    private static ChipFlow full() {
        ChipFlow x = new ChipFlow();
        for (int k = 0; k < 6; k++) {
            Check.same("4: design", Check.design(x, Check.PAIR), k);
        }
        for (int k = 0; k < 3; k++) {
            Check.same("5: library", Check.library(x, Check.NAND), k);
        }
        for (int k = 0; k < 4; k++) {
            Check.same("20: chip", x.map(k, k % 3), k);
        }
        return x;
    }

    /** 4: there are 6 (the tape stays). */
    private static void sixDesigns() {
        ChipFlow x = full();
        Check.feed(x, Check.COUNTER);
        Check.noRoom(x, "4: the seventh", () -> x.design());
        Check.same("55: the tape stays", x.tape(), Check.COUNTER.length());
        x.drop(0, 3);
        Check.same("4: the tape as it was, in the free place", x.design(), 3);
        Check.same("4: the tape is empty then", x.tape(), 0);
        Check.same("9: it is another one", x.graph(3, 1), 3);
        Check.noRoom(x, "4: an empty tape, too", () -> x.design());
        Check.feed(x, "$");
        Check.noRoom(x, "4: a tape with a fault, too", () -> x.design());
        Check.same("6: no new fault", x.fault(), 0);
    }

    /** 5: there are 3 (the tape stays). */
    private static void threeLibraries() {
        ChipFlow x = full();
        Check.feed(x, Check.LIBRARY);
        Check.noRoom(x, "5: the fourth", () -> x.library());
        Check.same("55: the tape stays", x.tape(), Check.LIBRARY.length());
        x.drop(1, 1);
        Check.same("5: the tape as it was, in the free place", x.library(), 1);
        Check.same("5: the tape is empty then", x.tape(), 0);
        Check.same("13: it is another one", x.cell(1, -1, 0), 8);
        Check.feed(x, "$");
        Check.noRoom(x, "5: a tape with a fault, too", () -> x.library());
        Check.same("6: no new fault", x.fault(), 0);
    }

    /** 20: there are 4. */
    private static void fourChips() {
        ChipFlow x = full();
        Check.noRoom(x, "20: the fifth", () -> x.map(0, 0));
        x.drop(2, 2);
        Check.same("20: in the free place", x.map(0, 0), 2);
        Check.noRoom(x, "20: full again", () -> x.map(5, 2));
        Check.noIndex(x, "20: no design comes first", () -> x.map(6, 0));
        Check.noIndex(x, "20: no library comes first", () -> x.map(0, 3));
    }

    /** The least number that is free. */
    private static void leastFree() {
        ChipFlow x = full();
        int[][] orders = {{5, 0, 3}, {2, 1, 4}};
        for (int[] order : orders) {
            for (int k : order) {
                x.drop(0, k);
            }
            java.util.Arrays.sort(order);
            for (int k : order) {
                Check.same("4: the least", Check.design(x, Check.PAIR), k);
            }
        }
        x.drop(1, 2);
        x.drop(1, 0);
        Check.same("5: the least", Check.library(x, Check.NAND), 0);
        Check.same("5: the next", Check.library(x, Check.NAND), 2);
        x.drop(2, 3);
        x.drop(2, 0);
        x.drop(2, 1);
        Check.same("20: the least", x.map(0, 0), 0);
        Check.same("20: the next", x.map(0, 0), 1);
        Check.same("20: the next", x.map(0, 0), 3);
    }

    /** 4, 5: the tape is empty then, with a fault, too; a fault takes no number. */
    private static void faultsTakeNoNumber() {
        ChipFlow x = new ChipFlow();
        Check.same("4: fault", Check.design(x, "module a { in x ; out y = z ; }"), -27);
        Check.same("55: empty", x.tape(), 0);
        Check.same("8: none", x.isThere(0, 0), false);
        Check.same("4: fault of the whole", Check.design(x, "module a { in x ; }"), -8);
        Check.same("8: none", x.isThere(0, 0), false);
        Check.same("4: good", Check.design(x, Check.PAIR), 0);
        Check.same("5: fault", Check.library(x, "cell a (x) = x , 0 , 1 ;"), -18);
        Check.same("55: empty", x.tape(), 0);
        Check.same("8: none", x.isThere(1, 0), false);
        Check.same("5: good", Check.library(x, Check.NAND), 0);
        Check.same("4: an empty tape", Check.design(x, ""), -1);
        String before = Picture.of(x);
        Check.same("4: fault", Check.design(x, "module a { in x : 8 ; in z : 5 ; out y = x.0 ; }"), -8);
        Check.same("5: fault", Check.library(x, "cell a (x) = x , 1 , 1 ; cell b (x) = x , 1 , 101 ;"), -47);
        Check.same("5: an empty tape", Check.library(x, ""), -1);
        Check.same("4, 5: what was there stays", Picture.of(x), before);
    }

    /** 6: of the latest design() or library() that did not throw; 0 if it had none, or there was none. */
    private static void codes() {
        ChipFlow x = new ChipFlow();
        Check.same("6: there was none", x.fault(), 0);
        Check.design(x, "$");
        Check.same("6: of a design", x.fault(), 1);
        Check.library(x, "cell");
        Check.same("6: of a library", x.fault(), 2);
        Check.library(x, Check.NAND);
        Check.same("6: it had none", x.fault(), 0);
        Check.design(x, "module a { in x : 9 ; }");
        Check.same("6: of a design", x.fault(), 12);
        for (int k = 0; k < 6; k++) {
            Check.design(x, Check.PAIR);
        }
        Check.same("6: it had none", x.fault(), 0);
        Check.library(x, "cell a (x) = y");
        Check.same("6: of a library", x.fault(), 11);
        Check.feed(x, Check.PAIR);
        Check.room("4: a seventh", () -> x.design());
        Check.same("6: that threw", x.fault(), 11);
        x.end(0);
        Check.same("6: other calls leave it", x.fault(), 11);
    }

    /** 7: no such kind; no such design, library, chip. */
    private static void drops() {
        ChipFlow x = full();
        int[] kinds = {-2147483648, -1, 3, 2147483647};
        for (int kind : kinds) {
            for (int k : new int[] {-1, 0, 9}) {
                Check.noArgument(x, "7: kind " + kind, () -> {
                    x.drop(kind, k);
                    return 0;
                });
                Check.noArgument(x, "8: kind " + kind, () -> x.isThere(kind, k));
            }
        }
        int[] counts = {6, 3, 4};
        for (int kind = 0; kind < 3; kind++) {
            int of = kind;
            for (int k : new int[] {-2147483648, -1, counts[kind], 2147483647}) {
                Check.same("8: isThere", x.isThere(of, k), false);
                Check.noIndex(x, "7: kind " + of + " number " + k, () -> {
                    x.drop(of, k);
                    return 0;
                });
            }
            for (int k = counts[kind] - 1; k >= 0; k--) {
                int at = k;
                Check.same("8: isThere", x.isThere(of, k), true);
                x.drop(of, k);
                Check.same("8: it went", x.isThere(of, k), false);
                Check.noIndex(x, "7: it went", () -> {
                    x.drop(of, at);
                    return 0;
                });
            }
        }
        for (int k : NOWHERE) {
            Check.index("9: all went", () -> x.graph(k, 0));
        }
    }

    /** 7: chips stay what they are without their design or library, and with others in their place. */
    private static void chipsStay() {
        ChipFlow x = Check.chip(Check.COUNTER, Check.LIBRARY);
        x.place(0, 12);
        x.route(0, 2);
        x.draw(0);
        x.tests(0);
        x.falsify(0, 0, 0);
        int area = x.chip(0, 3);
        String gates = gates(x);
        int late = x.arrival(0, x.chip(0, 1) - 1, true);
        x.drop(0, 0);
        x.drop(1, 0);
        for (int turn = 0; turn < 2; turn++) {
            Check.same("7: area", x.chip(0, 3), area);
            Check.same("7: gates", gates(x), gates);
            Check.same("7: time", x.arrival(0, x.chip(0, 1) - 1, true), late);
            Check.same("7: state", x.reset(0), 2);
            Check.same("7: clock", x.run(0, 1), 2);
            Check.same("7: clock", x.run(0, 2), 3);
            Check.same("7: state", x.reset(0), 0);
            Check.design(x, Check.PAIR);
            Check.library(x, "cell inv (a) = !a , 1000 , 100 ; cell nand (a,b) = !(a & b) , 999 , 99 ;");
        }
        Check.same("24: a cell of the library as that was", x.alter(0, 0, x.gate(0, 0, 0)), x.gate(0, 0, 0));
        Check.index("24: as that was: eight cells", () -> x.alter(0, 0, 8));
    }

    private static String gates(ChipFlow x) {
        StringBuilder all = new StringBuilder();
        for (int g = 0; g < x.chip(0, 0); g++) {
            for (int what = 0; what < 5; what++) {
                all.append(x.gate(0, g, what)).append(' ');
            }
        }
        return all.toString();
    }

    public static void main(String[] args) {
        sixDesigns();
        threeLibraries();
        fourChips();
        leastFree();
        faultsTakeNoNumber();
        codes();
        drops();
        chipsStay();
        Check.finish("EdgeHouseTest");
    }
}
