import java.util.ArrayList;
import java.util.HashMap;
import java.util.LinkedHashMap;
import java.util.List;
import java.util.Map;
import java.util.Random;

/** Random texts of designs, and the graphs that section 2 tells of them, worked out from the same trees. */
final class PlainMachine {
    /** Signs of operators by how tightly they bind: 1 | 2 ^ 3 & 4 == 5 +. */
    private static final String[] SIGNS = {"?", "|", "^", "&", "==", "+"};

    /** A part of an expression: its level (0 a choice, 6 a !, 7 a primary), its text if a primary. */
    private record Exp(int level, int width, String name, int bit, int value, List<Exp> parts) {
        String text() {
            if (level == 7) {
                return name == null ? value + "@" + width : bit < 0 ? name : name + "." + bit;
            }
            if (level == 6) {
                return "!" + inside(parts.get(0), 6);
            }
            if (level == 0) {
                return inside(parts.get(0), 1) + " ? " + parts.get(1).text() + " : " + parts.get(2).text();
            }
            int left = level == 4 ? 5 : level;
            return inside(parts.get(0), left) + " " + SIGNS[level] + " " + inside(parts.get(1), level + 1);
        }

        private static String inside(Exp part, int least) {
            return part.level < least ? "(" + part.text() + ")" : part.text();
        }

        int[] bits(PlainGraph graph, Map<String, int[]> told) {
            if (level == 7) {
                return primary(told);
            }
            List<int[]> of = new ArrayList<>();
            for (Exp part : parts) {
                of.add(part.bits(graph, told));
            }
            if (level == 4) {
                return new int[] {graph.same(of.get(0), of.get(1))};
            }
            if (level == 5) {
                return graph.sum(of.get(0), of.get(1));
            }
            int[] bits = new int[width];
            for (int k = 0; k < width; k++) {
                bits[k] = bit(graph, of, k);
            }
            return bits;
        }

        private int bit(PlainGraph graph, List<int[]> of, int k) {
            switch (level) {
                case 0: return graph.choice(of.get(0)[0], of.get(1)[k], of.get(2)[k]);
                case 1: return graph.or(of.get(0)[k], of.get(1)[k]);
                case 2: return graph.xor(of.get(0)[k], of.get(1)[k]);
                case 3: return graph.and(of.get(0)[k], of.get(1)[k]);
                default: return of.get(0)[k] ^ 1;
            }
        }

        private int[] primary(Map<String, int[]> told) {
            if (name != null) {
                return bit < 0 ? told.get(name) : new int[] {told.get(name)[bit]};
            }
            int[] bits = new int[width];
            for (int k = 0; k < width; k++) {
                bits[k] = value >> k & 1;
            }
            return bits;
        }
    }

    private record Item(String kind, String name, int width, int begin, Exp exp, Module module, List<Exp> arguments) {
        String text() {
            String wide = width == 1 ? "" : " : " + width;
            switch (kind) {
                case "in": return "in " + name + wide + " ; ";
                case "reg": return "reg " + name + wide + " = " + begin + " ; ";
                case "<-": return name + " <- " + exp.text() + " ; ";
                case "use":
                    List<String> all = new ArrayList<>();
                    for (Exp argument : arguments) {
                        all.add(argument.text());
                    }
                    return "use " + name + " " + module.name + " ( " + String.join(" , ", all) + " ) ; ";
                default: return kind + " " + name + wide + " = " + exp.text() + " ; ";
            }
        }
    }

    private static final class Module {
        final String name;
        final List<Item> items = new ArrayList<>();

        Module(String name) {
            this.name = name;
        }

        String text() {
            StringBuilder all = new StringBuilder("module ").append(name).append(" { ");
            for (Item item : items) {
                all.append(item.text());
            }
            return all.append("} ").toString();
        }

        int bitsOf(String kind) {
            int bits = 0;
            for (Item item : items) {
                bits += item.kind.equals(kind) ? item.width : 0;
                bits += kind.equals("reg") && item.kind.equals("use") ? item.module.bitsOf("reg") : 0;
            }
            return bits;
        }
    }

    private final Random random;
    private final List<Module> modules = new ArrayList<>();
    private final Map<String, Integer> widths = new LinkedHashMap<>();
    final String text;
    final int inputs;
    final int registers;
    final int outputs;
    final PlainGraph graph;
    final List<Integer> outRoots = new ArrayList<>();
    final List<Integer> nextRoots = new ArrayList<>();
    int beginning;

    PlainMachine(long seed) {
        random = new Random(seed);
        int count = 1 + random.nextInt(4);
        for (int k = 0; k < count; k++) {
            modules.add(module("m" + k));
        }
        StringBuilder all = new StringBuilder();
        for (Module m : modules) {
            all.append(m.text());
        }
        text = all.toString();
        Module machine = modules.get(count - 1);
        inputs = machine.bitsOf("in");
        registers = machine.bitsOf("reg");
        outputs = machine.bitsOf("out");
        graph = new PlainGraph(inputs + registers);
        workOut(machine);
    }

    /** The code of the fault that is due, 0 if none is. */
    int fault() {
        if (registers > 6 || inputs + registers > 12) {
            return 21;
        }
        return outputs < 1 || outputs > 16 ? 22 : graph.ands.size() > 1000 ? 23 : 0;
    }

    int place() {
        return text.lastIndexOf("module ") + 7;
    }

    private Module module(String name) {
        Module m = new Module(name);
        widths.clear();
        int items = 3 + random.nextInt(8);
        List<String> registers = new ArrayList<>();
        for (int k = 0; k < items; k++) {
            String fresh = "n" + k;
            int width = 1 + random.nextInt(random.nextInt(4) == 0 ? 8 : 3);
            int kind = k == 0 ? 0 : k == items - 1 ? 2 : random.nextInt(8);
            if (kind < 2) {
                m.items.add(new Item("in", fresh, width, 0, null, null, null));
                widths.put(fresh, width);
            } else if (kind < 4) {
                m.items.add(new Item(kind == 2 ? "out" : "let", fresh, width, 0, grow(width, 3), null, null));
                widths.put(fresh, width);
            } else if (kind == 4) {
                int narrow = Math.min(2, width);
                m.items.add(new Item("reg", fresh, narrow, random.nextInt(1 << narrow), null, null, null));
                widths.put(fresh, narrow);
                registers.add(fresh);
            } else if (kind == 5 && !registers.isEmpty()) {
                String register = registers.remove(0);
                m.items.add(new Item("<-", register, 0, 0, grow(widths.get(register), 2), null, null));
            } else if (!modules.isEmpty()) {
                use(m, fresh);
            }
        }
        return m;
    }

    private void use(Module m, String fresh) {
        Module of = modules.get(random.nextInt(modules.size()));
        List<Exp> arguments = new ArrayList<>();
        for (Item item : of.items) {
            if (item.kind.equals("in")) {
                arguments.add(grow(item.width, 2));
            }
        }
        m.items.add(new Item("use", fresh, 0, 0, null, of, arguments));
        for (Item item : of.items) {
            if (item.kind.equals("out")) {
                widths.put(fresh + "." + item.name, item.width);
            }
        }
    }

    private Exp grow(int width, int depth) {
        int kind = depth == 0 ? 7 : random.nextInt(9);
        if (kind == 4 && width == 1) {
            int wide = 1 + random.nextInt(8);
            return new Exp(4, 1, null, -1, 0, List.of(grow(wide, depth - 1), grow(wide, depth - 1)));
        }
        if (kind == 0) {
            return new Exp(0, width, null, -1, 0, List.of(grow(1, depth - 1), grow(width, depth - 1), grow(width, depth - 1)));
        }
        if (kind == 6) {
            return new Exp(6, width, null, -1, 0, List.of(grow(width, depth - 1)));
        }
        if (kind <= 5 && kind != 4) {
            return new Exp(kind, width, null, -1, 0, List.of(grow(width, depth - 1), grow(width, depth - 1)));
        }
        return primary(width);
    }

    private Exp primary(int width) {
        List<String> names = new ArrayList<>(widths.keySet());
        for (int turn = 0; turn < 20 && !names.isEmpty(); turn++) {
            String name = names.get(random.nextInt(names.size()));
            if (widths.get(name) == width && (width > 1 || random.nextBoolean())) {
                return new Exp(7, width, name, -1, 0, null);
            }
            if (width == 1) {
                return new Exp(7, 1, name, random.nextInt(widths.get(name)), 0, null);
            }
        }
        return new Exp(7, width, null, -1, random.nextInt(1 << width), null);
    }

    private void workOut(Module machine) {
        Map<String, int[]> told = new HashMap<>();
        int node = 1;
        for (Item item : machine.items) {
            if (item.kind.equals("in")) {
                int[] bits = new int[item.width];
                for (int k = 0; k < bits.length; k++) {
                    bits[k] = 2 * node;
                    node++;
                }
                told.put(item.name, bits);
            }
        }
        workOut(machine, told);
        for (Item item : machine.items) {
            if (item.kind.equals("out")) {
                for (int bit : told.get(item.name)) {
                    outRoots.add(bit);
                }
            }
        }
    }

    /** Items are worked out as they stand; of a use its arguments, then the module's items. */
    private void workOut(Module m, Map<String, int[]> told) {
        for (Item item : m.items) {
            if (item.kind.equals("out") || item.kind.equals("let")) {
                told.put(item.name, item.exp.bits(graph, told));
            } else if (item.kind.equals("reg")) {
                told.put(item.name, register(item));
            } else if (item.kind.equals("<-")) {
                int[] next = item.exp.bits(graph, told);
                for (int k = 0; k < next.length; k++) {
                    nextRoots.set((told.get(item.name)[k] >> 1) - 1 - inputs, next[k]);
                }
            } else if (item.kind.equals("use")) {
                workOutInstance(item, told);
            }
        }
    }

    private int[] register(Item item) {
        int[] bits = new int[item.width];
        for (int k = 0; k < bits.length; k++) {
            bits[k] = 2 * (1 + inputs + nextRoots.size());
            beginning |= (item.begin >> k & 1) << nextRoots.size();
            nextRoots.add(bits[k]);
        }
        return bits;
    }

    private void workOutInstance(Item item, Map<String, int[]> told) {
        Map<String, int[]> inside = new HashMap<>();
        int at = 0;
        for (Item own : item.module.items) {
            if (own.kind.equals("in")) {
                inside.put(own.name, item.arguments.get(at).bits(graph, told));
                at++;
            }
        }
        workOut(item.module, inside);
        for (Item own : item.module.items) {
            if (own.kind.equals("out")) {
                told.put(item.name + "." + own.name, inside.get(own.name));
            }
        }
    }

    /** An expression of that width over names, each told with its width. */
    static String expression(Map<String, Integer> names, int width, long seed) {
        PlainMachine blank = new PlainMachine(names, seed);
        return blank.grow(width, 3).text();
    }

    private PlainMachine(Map<String, Integer> names, long seed) {
        random = new Random(seed);
        widths.putAll(names);
        text = "";
        inputs = 0;
        registers = 0;
        outputs = 0;
        graph = new PlainGraph(0);
    }
}
