import java.util.Map;
import java.util.Random;
import java.util.TreeMap;
import java.util.TreeSet;

/** Section 4 and promises 20 to 27: the largest chips, chips that cannot be, ways of one cost, wrong numbers. */
public final class EdgeChipTest {
    private static final int LEAST = -2147483648;
    private static final int MOST = 2147483647;
    private static final String AND_ONLY = "cell and (a,b) = a & b , 2 , 1 ;";

    /** Maps design 0 with a library and compares every gate with the plain mapper's. */
    private static int mapped(ChipFlow x, int design, int library) {
        PlainMapper due = new PlainMapper(x, design, library);
        int chip = x.map(design, library);
        Check.same("20: map", Math.min(chip, 0), due.answer);
        if (chip < 0) {
            return chip;
        }
        Check.same("21: gates", x.chip(chip, 0), due.gates.size());
        int area = 0;
        for (int g = 0; g < due.gates.size() && g < x.chip(chip, 0); g++) {
            int[] gate = due.gates.get(g);
            for (int what = 0; what < 4; what++) {
                Check.same("22: gate " + g + " " + what, x.gate(chip, g, what), what < gate.length ? gate[what] : -1);
            }
            Check.same("22: its net", x.gate(chip, g, 4), x.graph(design, 0) + x.graph(design, 1) + g);
            area += x.cell(library, gate[0], 2);
        }
        Check.same("21: area", x.chip(chip, 3), area);
        for (int k = 0; k < due.ends.size(); k++) {
            boolean next = k >= x.graph(design, 2);
            Check.same("23: netOf", x.netOf(chip, next ? k - x.graph(design, 2) : k, next), due.ends.get(k));
        }
        Check.same("27: proves", x.proves(chip, design), 0);
        return chip;
    }

    /** A machine whose swept graph has so many ANDs, each of a set of inputs of its own. */
    static String chains(int ands) {
        TreeSet<Integer> sets = new TreeSet<>();
        StringBuilder text = new StringBuilder("module m { in a : 6 ; reg b : 6 ; ");
        int ends = 0;
        for (int step = 1; step < 12; step += 4) {
            for (int first = 0; first < 12 && sets.size() < ands && ends < 22; first++) {
                int set = 1 << first;
                StringBuilder exp = new StringBuilder(name(first));
                for (int k = 1; k < 11 && sets.size() < ands; k++) {
                    int next = (first + k * step) % 12;
                    if (sets.contains(set | 1 << next)) {
                        break;
                    }
                    set |= 1 << next;
                    sets.add(set);
                    exp.append(" & ").append(name(next));
                }
                if (exp.indexOf("&") > 0) {
                    text.append(ends < 16 ? "out y" + ends + " = " : "let n" + (ends - 16) + " = ").append(exp).append(" ; ");
                    ends++;
                }
            }
        }
        if (ends > 16) {
            text.append("b <- 0@6 ");
            for (int k = 16; k < ends; k++) {
                text.append("| (n").append(k - 16).append(" ? ").append(1 << k - 16).append("@6 : 0@6) ");
            }
            text.append("; ");
        }
        Check.same("as many ANDs as were wanted", sets.size(), ands);
        return text.append("}").toString();
    }

    private static String name(int bit) {
        return bit < 6 ? "a." + bit : "b." + (bit - 6);
    }

    /** 20: -2 if it would have more than 150 gates. */
    private static void manyGates() {
        ChipFlow x = new ChipFlow();
        Check.library(x, AND_ONLY);
        Check.design(x, chains(149));
        Check.design(x, chains(150));
        Check.design(x, chains(151));
        for (int k = 0; k < 3; k++) {
            Check.same("9: swept ANDs", x.graph(k, 5), 149 + k);
        }
        Check.same("20: 149 gates", mapped(x, 0, 0), 0);
        Check.same("20: 150 gates", mapped(x, 1, 0), 1);
        Check.same("21: 150 gates", x.chip(1, 0), 150);
        Check.same("21: nets", x.chip(1, 1), 162);
        Check.same("22: the last gate's net", x.gate(1, 149, 4), 161);
        Check.noIndex(x, "22: no more gates", () -> x.gate(1, 150, 0));
        String before = Picture.of(x);
        Check.same("20: 151 gates", x.map(2, 0), -2);
        Check.same("20: no chip", x.isThere(2, 2), false);
        Check.same("20: nothing else changed", Picture.of(x), before);
        Check.same("20: the number is still free", x.map(0, 0), 2);
    }

    /** 20: NONE if a root has no NEED for 0, or an inverter is wanted and there is none; else -2. */
    private static void noChip() {
        ChipFlow x = new ChipFlow();
        Check.library(x, AND_ONLY);
        Check.library(x, "cell inv (a) = !a , 1 , 1 ; cell xor (a,b) = a ^ b , 1 , 1 ;");
        Check.library(x, "cell nand (a,b) = !(a & b) , 1 , 1 ; cell buf (a) = a , 1 , 1 ;");
        String large = chains(151);
        Check.design(x, large.replaceFirst("out y0 = ([^;]*) ;", "out y0 = !($1) ;"));
        Check.design(x, large);
        Check.design(x, "module m { in a ; reg r ; r <- !a ; out y = a ; }");
        Check.design(x, "module m { in a ; in b ; reg r ; r <- a & b ; out y = r ; }");
        Check.design(x, "module m { in a ; in b ; in c ; out y = !(!(a & b) & c) ; }");
        Check.design(x, "module m { in a ; in b ; out y = a & !b ; }");
        int[][] due = {{0, 0, -1}, {1, 0, -2}, {1, 1, -1}, {2, 0, -1}, {2, 1, 0}, {3, 0, 1}, {3, 1, -1}, {3, 2, -1},
            {4, 0, -1}, {4, 2, -1}, {5, 0, -1}};
        for (int[] row : due) {
            String before = Picture.of(x);
            int chip = x.map(row[0], row[1]);
            Check.same("20: design " + row[0] + " library " + row[1], chip, row[2]);
            if (chip < 0) {
                Check.same("20: nothing changed", Picture.of(x), before);
            }
        }
    }

    /** 20: without gates: outputs and next values of inputs, registers, and tied ones. */
    private static void noGates() {
        ChipFlow x = new ChipFlow();
        Check.library(x, "cell buf (a) = a , 1 , 1 ;");
        Check.design(x, "module m { in a : 2 ; reg r : 3 ; r <- 5@3 ; out y : 2 = a ; out z = r.2 ; out t = 0@1 ; out s = 1@1 ; }");
        Check.same("20: map", mapped(x, 0, 0), 0);
        int[] due = {0, 5, 3, 0, 3, 0, 0, 0};
        for (int what = 0; what < 8; what++) {
            Check.same("21: chip " + what, x.chip(0, what), due[what]);
        }
        int[] outputs = {0, 1, 4, -1, -2};
        for (int k = 0; k < 5; k++) {
            Check.same("23: output " + k, x.netOf(0, k, false), outputs[k]);
        }
        int[] next = {-2, -1, -2};
        for (int k = 0; k < 3; k++) {
            Check.same("23: next value " + k, x.netOf(0, k, true), next[k]);
        }
        Check.noIndex(x, "22: no gates", () -> x.gate(0, 0, 0));
        Check.noIndex(x, "24: no gates", () -> x.alter(0, 0, 0));
        Check.same("25: run", x.run(0, 3), 3 | 16);
        Check.same("25: run", x.run(0, 0), 4 | 16);
        Check.same("26: reset", x.reset(0), 5);
    }

    /** 21 to 23: no such chip, gate, bit; no such what. */
    private static void numbers() {
        ChipFlow x = Check.chip("module m { in a ; in b ; in c ; reg r ; r <- a ; out y = a & b ; out z = !(a & b | c) ; out w = !c ; }",
                Check.LIBRARY);
        int gates = x.chip(0, 0);
        int[] whats = {LEAST, -1, 8, MOST};
        for (int what : whats) {
            Check.noArgument(x, "21: what " + what, () -> x.chip(0, what));
        }
        int[] gateWhats = {LEAST, -1, 5, MOST};
        for (int what : gateWhats) {
            Check.noArgument(x, "22: what " + what, () -> x.gate(0, gates - 1, what));
        }
        int[] noGates = {LEAST, -1, gates, MOST};
        for (int g : noGates) {
            Check.noIndex(x, "22: gate " + g, () -> x.gate(0, g, 0));
            Check.noIndex(x, "22: gate " + g + " before what", () -> x.gate(0, g, 5));
        }
        int[] none = {LEAST, -1, 1, 4, MOST};
        for (int c : none) {
            Check.noIndex(x, "21: chip " + c, () -> x.chip(c, 0));
            Check.noIndex(x, "21: chip " + c + " before what", () -> x.chip(c, 8));
            Check.noIndex(x, "22: chip " + c, () -> x.gate(c, 0, 5));
            Check.noIndex(x, "23: chip " + c, () -> x.netOf(c, 0, false));
            Check.noIndex(x, "24: chip " + c, () -> x.alter(c, 0, 0));
            Check.noIndex(x, "25: chip " + c, () -> x.run(c, 0));
            Check.noIndex(x, "25: chip " + c + " before the input", () -> x.run(c, 8));
            Check.noIndex(x, "26: chip " + c, () -> x.reset(c));
            Check.noIndex(x, "27: chip " + c, () -> x.proves(c, 0));
        }
        int[] noOutputs = {LEAST, -1, 3, MOST};
        for (int k : noOutputs) {
            Check.noIndex(x, "23: output " + k, () -> x.netOf(0, k, false));
        }
        int[] noRegisters = {LEAST, -1, 1, MOST};
        for (int k : noRegisters) {
            Check.noIndex(x, "23: register " + k, () -> x.netOf(0, k, true));
        }
        Check.same("23: the last register's", x.netOf(0, 0, true), 0);
    }

    /** 22: NONE if it has not so many inputs. */
    private static void inputsOfGates() {
        ChipFlow x = Check.chip("module m { in a ; in b ; in c ; out y = !a ; out z = a & b ; out w = a & b & c ; }",
                "cell inv (a) = !a , 1 , 1 ; cell and (a,b) = a & b , 3 , 1 ;");
        Check.same("21: gates", x.chip(0, 0), 3);
        int[][] due = {{0, 0, -1, -1, 3}, {1, 0, 1, -1, 4}, {1, 2, 4, -1, 5}};
        for (int g = 0; g < 3; g++) {
            for (int what = 0; what < 5; what++) {
                Check.same("22: gate " + g + " " + what, x.gate(0, g, what), due[g][what]);
            }
        }
        ChipFlow y = Check.chip("module m { in a ; in b ; in c ; out w = a & b & c ; }", "cell and (a,b,c) = a & b & c , 3 , 1 ;");
        int[] three = {0, 0, 1, 2, 3};
        for (int what = 0; what < 5; what++) {
            Check.same("22: three inputs", y.gate(0, 0, what), three[what]);
        }
    }

    /** 24: no such gate, cell; another number of inputs; which it had; tests go, all else stays. */
    private static void altered() {
        ChipFlow x = Check.chip(Check.PAIR, Check.NAND + " cell nor (a,b) = !(a|b) , 7 , 4 ; cell buf (a) = a , 9 , 6 ; "
                + "cell maj (a,b,c) = a&b|b&c|a&c , 6 , 6 ;");
        x.place(0, 8);
        x.route(0, 0);
        x.draw(0);
        x.falsify(0, 1, 0);
        x.tests(0);
        x.run(0, 3);
        int[] noCells = {LEAST, -1, 5, MOST};
        for (int cell : noCells) {
            Check.noIndex(x, "24: cell " + cell, () -> x.alter(0, 0, cell));
            Check.noIndex(x, "24: gate before inputs", () -> x.alter(0, 2, cell));
        }
        int[] noGates = {LEAST, -1, 2, MOST};
        for (int g : noGates) {
            Check.noIndex(x, "24: gate " + g, () -> x.alter(0, g, 0));
        }
        int[][] unlike = {{0, 0}, {0, 3}, {0, 4}, {1, 1}, {1, 2}, {1, 4}};
        for (int[] row : unlike) {
            Check.noArgument(x, "24: gate " + row[0] + " cell " + row[1], () -> x.alter(0, row[0], row[1]));
        }
        Check.same("24: a set until now", x.faults(0, 2) >= 0, true);
        String before = layout(x);
        Check.same("24: which it had", x.alter(0, 1, 3), 0);
        Check.same("24: tests go", x.faults(0, 2), -1);
        Check.state("24: tests go", () -> x.pattern(0, 0));
        Check.same("24: all else stays", layout(x), before);
        Check.same("21: the area is of its cells now", x.chip(0, 3), 2 + 9);
        Check.same("24: which it had", x.alter(0, 1, 3), 3);
        Check.same("24: the last cell of two inputs", x.alter(0, 0, 2), 1);
        Check.same("21: area", x.chip(0, 3), 7 + 9);
        Check.same("25: a NOR now", x.run(0, 0), 1);
        Check.same("44: the false pair stays", x.falsify(0, 1, 0), false);
        x.tests(0);
        Check.same("24: the same cell", x.alter(0, 0, 2), 2);
        Check.same("24: tests go all the same", x.faults(0, 2), -1);
    }

    private static String layout(ChipFlow x) {
        StringBuilder all = new StringBuilder();
        for (int b = 0; b < x.box(0, -1, 0); b++) {
            for (int what = 0; what < 5; what++) {
                all.append(x.box(0, b, what)).append(' ');
            }
        }
        for (int net = 0; net < 4; net++) {
            all.append(x.wire(0, net)).append(' ').append(x.routed(0, net, 0)).append(' ');
        }
        return all.append(x.at(0, 0, 0)).append(x.at(0, 1, 0)).append(x.found(0, 0)).toString();
    }

    /** 25: as play(); 26: the state before; the state stays when a gate is altered. */
    private static void played() {
        for (int bits = 0; bits <= 12; bits += 4) {
            StringBuilder text = new StringBuilder("module m { ");
            for (int k = 0; k < bits; k++) {
                text.append("in i").append(k).append(" ; ");
            }
            ChipFlow x = Check.chip(text + "out y = " + (bits == 0 ? "1@1" : "i" + (bits - 1)) + " ; }", Check.NAND);
            Check.same("25: the least input", x.run(0, 0), bits == 0 ? 1 : 0);
            Check.same("25: the largest input", x.run(0, (1 << bits) - 1), 1);
            int[] wrong = {1 << bits, -1, LEAST, MOST};
            for (int input : wrong) {
                Check.noArgument(x, "25: input " + input, () -> x.run(0, input));
            }
        }
        ChipFlow x = Check.chip("module m { in a : 6 ; reg r : 6 = 33 ; r <- a ; out y : 6 = r ; }", Check.NAND);
        Check.same("25: run", x.run(0, 63), 33);
        Check.argument("25: a refused clock", () -> x.run(0, 64));
        Check.same("25: was none", x.run(0, 17), 63);
        Check.same("26: the state before", x.reset(0), 17);
        Check.same("26: the beginning", x.reset(0), 33);
        Check.same("15: the design's state is its own", x.state(0), 33);
        ChipFlow y = Check.chip(Check.COUNTER, Check.LIBRARY);
        y.run(0, 1);
        y.run(0, 1);
        y.alter(0, 0, y.gate(0, 0, 0));
        Check.same("24: the state stays", y.reset(0), 4);
        y.run(0, 1);
        y.drop(2, 0);
        y.map(0, 0);
        Check.same("20: a new chip is in the beginning", y.reset(0), 2);
    }

    /** 27: as equal(): not as many bits of inputs, or outputs. */
    private static void proved() {
        ChipFlow x = Check.chip("module m { in a : 3 ; out y : 2 = a.0 ? 1@2 : 2@2 ; }", Check.LIBRARY);
        Check.design(x, "module m { in a : 2 ; out y : 2 = 0@2 ; }");
        Check.design(x, "module m { in a : 3 ; out y : 3 = 0@3 ; }");
        Check.design(x, "module m { in a : 3 ; reg r ; r <- a == 7@3 ; out y : 2 = r ? 3@2 : a.0 ? 1@2 : 2@2 ; }");
        Check.same("27: as the design", x.proves(0, 0), 0);
        Check.index("19: no witness", () -> x.witness(0));
        Check.same("27: at the second clock", x.proves(0, 3), 2);
        Check.same("19: witness", x.witness(0) * 10 + x.witness(1), 70);
        Check.noArgument(x, "27: inputs", () -> x.proves(0, 1));
        Check.noArgument(x, "27: outputs", () -> x.proves(0, 2));
        int[] none = {LEAST, -1, 4, 6, MOST};
        for (int d : none) {
            Check.noIndex(x, "27: design " + d, () -> x.proves(0, d));
            Check.noIndex(x, "27: no chip either", () -> x.proves(1, d));
        }
        Check.noIndex(x, "27: no chip before unlike bits", () -> x.proves(1, 1));
        Check.same("19: the witness stays", x.witness(1), 0);
    }

    /** THE WAY of several of the least cost: by cells, by cuts, by orders, by turns; cuts of 3 nodes at most. */
    private static void ways() {
        String[] designs = {
            "module m { in a ; in b ; in c ; in d ; out y = (a & d) & (b & c) ; out z = !(a & c) & !(b & d) ; }",
            "module m { in a ; in b ; in c ; in d ; out y = a & b & c & d ; }",
            "module m { in a ; in b ; in c ; in d ; out y = (a & b) & (c & d) ; }",
            "module m { in a ; in b ; in c ; in d ; out y = !(a & b) & !(c & d) ; out z = a ^ b ^ c ^ d ; }",
            "module m { in a ; in b ; in c ; out y = a ? b : c ; out z = !a & !b & !c ; out w = a & b | c ; }",
            "module m { in a : 3 ; in b : 3 ; out s : 3 = a + b ; out e = a == b ; }",
            Check.COUNTER};
        String[] libraries = {Check.NAND, Check.LIBRARY,
            "cell i (a) = !a , 3 , 1 ; cell n (a,b) = !(a|b) , 2 , 1 ; cell m (a,b) = !(b|a) , 2 , 1 ; cell o (a,b,c) = a|b|c , 4 , 1 ;",
            "cell i (a) = !a , 1 , 1 ; cell p (a,b,c) = a & b & c , 2 , 1 ; cell q (a,b) = a & b , 1 , 1 ;",
            "cell q (a,b) = a & b , 1 , 1 ; cell r (a,b) = a | b , 1 , 1 ; cell t (a,b) = a & !b , 2 , 1 ; cell n (a,b) = !(a&b) , 1 , 1 ;",
            "cell i (a) = !a , 1000 , 1 ; cell x (a,b,c) = a ^ b ^ c , 1 , 1 ; cell q (a,b) = a & !b , 1 , 1 ; "
                + "cell y (a,b,c) = a & b | !a & c , 1 , 1 ;",
            "cell k (a,b,c) = a & !a , 1 , 1 ; cell f (a,b,c) = b & !c , 1 , 1 ; cell i (a) = !a , 1 , 1 ; cell j (a) = !a , 1 , 1 ; "
                + "cell n (a,b) = !a & !b , 1 , 1 ;"};
        for (String library : libraries) {
            for (String design : designs) {
                ChipFlow x = new ChipFlow();
                Check.library(x, library);
                Check.design(x, design);
                mapped(x, 0, 0);
            }
        }
    }

    /** A row of ANDs, each of the one before, turned, and an input: all of other functions. */
    static String decisions(int ands, int seed) {
        Random random = new Random(seed);
        StringBuilder text = new StringBuilder("module m { in a : 6 ; reg b : 6 ; ");
        String last = "a.0";
        int turn = 0;
        for (int k = 0; k < ands; k += 30) {
            StringBuilder exp = new StringBuilder(last);
            for (int i = k; i < k + 30 && i < ands; i++) {
                int next = (turn + 1 + random.nextInt(11)) % 12;
                turn = next;
                exp.insert(0, "!(").append(") & ").append(name(next));
            }
            text.append(k + 30 < ands ? "let" : "out").append(" n").append(k).append(" = ").append(exp).append(" ; ");
            last = "n" + k;
        }
        return text.append("}").toString();
    }

    /** Chips of the last of 1000 nodes, and of a tree of so many: all rows are long enough. */
    private static void deepGraphs() {
        ChipFlow x = new ChipFlow();
        Check.library(x, AND_ONLY);
        Check.library(x, Check.NAND);
        String junk = EdgeMachineTest.ands(164, 0).replace("out z", "let z");
        Check.design(x, junk.replace("}", "let t = x.0 & !y.0 ; let u = !x.1 & y.3 ; let v = x.2 & !y.5 ; let w = y.1 & y.2 ; "
                + "out p = (t ? u : v) & w ; out q = t ^ w ; }"));
        Check.same("9: ANDs", x.graph(0, 3) > 990, true);
        Check.same("20: of the last nodes", mapped(x, 0, 1), 0);
        Check.design(x, decisions(990, 1));
        Check.same("9: ANDs", x.graph(1, 3), 990);
        Check.same("9: most of them stay", x.graph(1, 5) > 950, true);
        Check.same("9: in one row", x.graph(1, 4), 990);
        Check.same("20: no inverter", x.map(1, 0), -1);
        Check.same("20: too many gates", mapped(x, 1, 1), -2);
        Check.same("20: the next chip is as it should be", mapped(x, 0, 1), 1);
    }

    private static String randomCells(Random random) {
        StringBuilder all = new StringBuilder();
        int count = 2 + random.nextInt(7);
        for (int k = 0; k < count; k++) {
            int inputs = k == 0 && random.nextInt(4) > 0 ? 1 : 2 + random.nextInt(2);
            StringBuilder list = new StringBuilder();
            for (int i = 0; i < inputs; i++) {
                list.append(i == 0 ? "" : ",").append((char) ('a' + i));
            }
            StringBuilder exp = new StringBuilder(inputs == 1 ? "!a" : random.nextInt(3) == 0 ? "!(" : "(");
            for (int i = 0; inputs > 1 && i < inputs; i++) {
                String sign = random.nextInt(4) == 0 ? "^" : random.nextBoolean() ? "&" : "|";
                exp.append(i == 0 ? "" : sign).append(random.nextInt(4) == 0 ? "!" : "").append((char) ('a' + i));
            }
            all.append("cell c").append(k).append(" (").append(list).append(") = ").append(exp).append(inputs == 1 ? "" : ")");
            all.append(" , ").append(1 + random.nextInt(4)).append(" , ").append(1 + random.nextInt(9)).append(" ; ");
        }
        return all.toString();
    }

    private static void randomChips() {
        Random random = new Random(20);
        int made = 0;
        for (int turn = 0; turn < 120; turn++) {
            Map<String, Integer> names = new TreeMap<>(Map.of("a", 3, "b", 2));
            String text = "module m { in a : 3 ; in b : 2 ; out y : 2 = " + PlainMachine.expression(names, 2, turn) + " ; out z = "
                    + PlainMachine.expression(names, 1, turn + 1000) + " ; reg r ; r <- (" + PlainMachine.expression(names, 1, turn + 2000)
                    + ") ^ r ; }";
            ChipFlow x = new ChipFlow();
            Check.same("library", Check.library(x, randomCells(random)), 0);
            Check.same("design", Check.design(x, text), 0);
            made += mapped(x, 0, 0) == 0 ? 1 : 0;
        }
        Check.same("20: most of them can be made", made > 60, true);
    }

    public static void main(String[] args) {
        manyGates();
        noChip();
        noGates();
        numbers();
        inputsOfGates();
        altered();
        played();
        proved();
        ways();
        deepGraphs();
        randomChips();
        Check.finish("EdgeChipTest");
    }
}
