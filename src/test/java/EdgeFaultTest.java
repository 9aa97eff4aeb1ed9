import java.util.ArrayList;
import java.util.List;
import java.util.Random;

/** Texts changed at random, a token or a byte at a time: the fault that is met first, or none. */
final class EdgeFaultTest {
    private static final String[] TOKENS = {"module", "in", "out", "let", "reg", "use", "cell", "(", ")", "{", "}",
        ";", ",", "=", ".", ":", "&", "|", "^", "!", "+", "?", "@", "<-", "==", "0", "1", "2", "3", "7", "8", "9", "255",
        "256", "1000", "1001", "100", "101", "999999", "1000000", "n0", "n1", "n2", "n3", "m0", "m1", "a", "b", "c",
        "abcdefghijkl", "abcdefghijklm", "$", "<", "#", "\n", "@ 1", "1@1", "n0.0", "n3.n1", "( a", "! (", "1@1 ?"};
    private static final String BYTES = "ab_09 \n\t#<-=(){};,.:&|^!+?@$\u0000\u0080\u00ff";

    private EdgeFaultTest() {
    }

    private static List<String> tokens(String text) {
        List<String> parts = new ArrayList<>();
        for (String part : text.split("(?<=[^A-Za-z0-9_])|(?=[^A-Za-z0-9_])")) {
            parts.add(part);
        }
        return parts;
    }

    private static String pick(Random random, List<String> parts) {
        return random.nextInt(3) == 0 ? parts.get(random.nextInt(parts.size())) : TOKENS[random.nextInt(TOKENS.length)];
    }

    static String changed(String text, Random random) {
        List<String> parts = tokens(text);
        for (int k = random.nextInt(4); k > 0 && parts.size() > 1; k--) {
            int at = random.nextInt(parts.size());
            switch (random.nextInt(5)) {
                case 0:
                    parts.remove(at);
                    break;
                case 1:
                    parts.add(at, " " + pick(random, parts) + " ");
                    break;
                case 2:
                    parts.set(at, parts.set(random.nextInt(parts.size()), parts.get(at)));
                    break;
                case 3:
                    parts.set(at, parts.get(at) + BYTES.charAt(random.nextInt(BYTES.length())));
                    break;
                default:
                    parts.set(at, pick(random, parts));
            }
        }
        String all = String.join("", parts);
        return random.nextInt(20) == 0 ? all.substring(0, random.nextInt(all.length() + 1)) : all;
    }

    private static String cellText(Random random) {
        StringBuilder all = new StringBuilder();
        for (int k = random.nextInt(4); k >= 0; k--) {
            int inputs = 1 + random.nextInt(3);
            all.append("cell c").append(k).append(" (").append("a,b,c", 0, 2 * inputs - 1).append(") = ");
            all.append(cellExpression(random, inputs, 3)).append(" , ").append(1 + random.nextInt(1000));
            all.append(" , ").append(1 + random.nextInt(100)).append(" ; ");
        }
        return all.toString();
    }

    private static String cellExpression(Random random, int inputs, int depth) {
        if (depth == 0 || random.nextInt(4) == 0) {
            return String.valueOf("abc".charAt(random.nextInt(inputs)));
        }
        if (random.nextInt(4) == 0) {
            return "!" + "(" + cellExpression(random, inputs, depth - 1) + ")";
        }
        String sign = String.valueOf("&|^".charAt(random.nextInt(3)));
        String both = cellExpression(random, inputs, depth - 1) + sign + cellExpression(random, inputs, depth - 1);
        return random.nextBoolean() ? "(" + both + ")" : both;
    }

    /** Some 60 things open, some 40 names, some 16 modules, some 200 instances, some 12 bits: near all limits. */
    private static String crowded(Random random) {
        StringBuilder all = new StringBuilder();
        int modules = random.nextInt(3) == 0 ? 14 + random.nextInt(3) : 1 + random.nextInt(4);
        int uses = random.nextInt(3) == 0 ? 2 : 0;
        for (int m = 0; m < modules; m++) {
            all.append("module m").append(m).append(" { in n0 : 2 ; reg n1 = 1 ; out n3 = ").append(deep(random)).append(" ; ");
            for (int k = 0; k < uses && m > 0; k++) {
                all.append("use u").append(k).append(" m").append(Math.min(m - 1, 6)).append(" ( n0 ) ; ");
            }
            int names = random.nextInt(3) == 0 ? 34 + random.nextInt(4) : random.nextInt(3);
            for (int k = 0; k < names; k++) {
                all.append("let l").append(k).append(" = n1 ; ");
            }
            all.append("} ");
        }
        return all.toString();
    }

    private static String deep(Random random) {
        StringBuilder front = new StringBuilder();
        StringBuilder back = new StringBuilder();
        for (int k = random.nextInt(3) == 0 ? 58 + random.nextInt(5) : random.nextInt(5); k > 0; k--) {
            switch (random.nextInt(4)) {
                case 0:
                    front.append("n1 ? ");
                    back.insert(0, " : n1");
                    break;
                case 1:
                    front.append("n1 ? n0.1 : ");
                    break;
                default:
                    front.append(random.nextBoolean() ? "( " : "!(");
                    back.insert(0, " )");
            }
        }
        return front + "n1" + back;
    }

    private static void oneDesign(ChipFlow x, String text) {
        PlainReader due = new PlainReader(text, false);
        int got = Check.design(x, text);
        // More than 1000 ANDs are not counted by the plain reader; other tests do.
        if (x.fault() != 23) {
            Check.same("4: design of " + text, got, due.code == 0 ? 0 : -1 - due.place);
            Check.same("6: fault of " + text, x.fault(), due.code);
        }
        if (got >= 0) {
            x.drop(0, got);
        }
    }

    private static void oneLibrary(ChipFlow x, String text) {
        PlainReader due = new PlainReader(text, true);
        int got = Check.library(x, text);
        Check.same("5: library of " + text, got, due.code == 0 ? 0 : -1 - due.place);
        Check.same("6: fault of " + text, x.fault(), due.code);
        for (int k = 0; got >= 0 && k < due.cells.size(); k++) {
            for (int what = 0; what < 4; what++) {
                Check.same("13: cell " + k + " of " + text, x.cell(got, k, what), due.cells.get(k)[what]);
            }
        }
        if (got >= 0) {
            x.drop(1, got);
        }
    }

    static void some(long from, long to) {
        ChipFlow x = new ChipFlow();
        for (long seed = from; seed < to; seed++) {
            Random random = new Random(seed);
            String design = random.nextInt(4) == 0 ? crowded(random) : new PlainMachine(random.nextInt(4000)).text;
            for (int k = 0; k < 20; k++) {
                oneDesign(x, changed(design, random));
            }
            String cells = cellText(random);
            for (int k = 0; k < 10; k++) {
                oneLibrary(x, changed(cells, random));
            }
        }
    }

    public static void main(String[] args) {
        some(args.length > 0 ? Long.parseLong(args[0]) : 0, args.length > 1 ? Long.parseLong(args[1]) : 500);
        Check.finish("EdgeFaultTest");
    }
}
