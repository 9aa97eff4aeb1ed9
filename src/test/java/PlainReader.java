import java.util.ArrayList;
import java.util.List;

/** The grammar of section 1, a method for each of its rules: which fault of a text is met first. */
final class PlainReader {
    private static final List<String> WORDS = List.of("module", "in", "out", "let", "reg", "use", "cell");
    private static final String LETTERS = "abcdefghijklmnopqrstuvwxyzABCDEFGHIJKLMNOPQRSTUVWXYZ_";
    private static final String DIGITS = "0123456789";
    private static final String NAME = "a name";
    private static final String NUMBER = "a number";
    private static final String END = "the end";

    private static final class Fault extends RuntimeException {
        private static final long serialVersionUID = 1L;
        final int code;
        final int place;

        Fault(int code, int place) {
            this.code = code;
            this.place = place;
        }
    }

    /** A name that is told: its kind (in out let reg use), its width; of a use its module. */
    private static final class Told {
        final String name;
        final String kind;
        final int width;
        final Module of;
        boolean driven;

        Told(String name, String kind, int width, Module of) {
            this.name = name;
            this.kind = kind;
            this.width = width;
            this.of = of;
        }
    }

    private static final class Module {
        final String name;
        final int place;
        final List<Told> names = new ArrayList<>();

        Module(String name, int place) {
            this.name = name;
            this.place = place;
        }

        Told find(String wanted) {
            for (Told told : names) {
                if (told.name.equals(wanted)) {
                    return told;
                }
            }
            return null;
        }

        List<Told> all(String kind) {
            List<Told> found = new ArrayList<>();
            for (Told told : names) {
                if (told.kind.equals(kind)) {
                    found.add(told);
                }
            }
            return found;
        }

        int bits(String kind) {
            int bits = 0;
            for (Told told : all(kind)) {
                bits += told.width;
            }
            for (Told use : kind.equals("reg") ? all("use") : new ArrayList<Told>()) {
                bits += use.of.bits("reg");
            }
            return bits;
        }

        int instances() {
            int count = 0;
            for (Told use : all("use")) {
                count += 1 + use.of.instances();
            }
            return count;
        }
    }

    private final String text;
    private final boolean ofCells;
    private int next;
    private int start;
    private String kind;
    private String letters;
    private int open;
    private final List<Module> modules = new ArrayList<>();
    private Module module;
    private List<String> inputs;
    /** Of each cell: its inputs, function, area and delay. */
    final List<int[]> cells = new ArrayList<>();
    int code;
    int place = -1;

    PlainReader(String text, boolean ofCells) {
        this.text = text;
        this.ofCells = ofCells;
        try {
            take();
            if (ofCells) {
                readCells();
            } else {
                readModules();
            }
        } catch (Fault fault) {
            code = fault.code;
            place = fault.place;
        }
    }

    // ======== tokens

    private boolean isOne(int at, String of) {
        return at < text.length() && of.indexOf(text.charAt(at)) >= 0;
    }

    private void skip() {
        while (isOne(next, "\t\n\r #")) {
            boolean comment = text.charAt(next) == '#';
            next++;
            while (comment && next < text.length() && text.charAt(next) != '\n') {
                next++;
            }
        }
    }

    /** Takes the token at hand: the next one is read at once. */
    private void take() {
        skip();
        start = next;
        if (next == text.length()) {
            kind = END;
        } else if (isOne(next, LETTERS)) {
            readLetters(LETTERS + DIGITS, 12);
            kind = WORDS.contains(letters) ? letters : NAME;
        } else if (isOne(next, DIGITS)) {
            readLetters(DIGITS, 6);
            kind = NUMBER;
        } else {
            readSign();
        }
    }

    private void readLetters(String of, int most) {
        while (isOne(next, of)) {
            next++;
        }
        letters = text.substring(start, next);
        if (letters.length() > most) {
            throw new Fault(1, start);
        }
    }

    private void readSign() {
        for (String sign : List.of("<-", "==", "(", ")", "{", "}", ";", ",", "=", ".", ":", "&", "|", "^", "!", "+", "?", "@")) {
            if (text.startsWith(sign, start)) {
                kind = sign;
                next = start + sign.length();
                return;
            }
        }
        throw new Fault(1, start);
    }

    private boolean at(String wanted) {
        return kind.equals(wanted);
    }

    private void want(String wanted) {
        if (!at(wanted)) {
            throw new Fault(2, start);
        }
    }

    private void take(String wanted) {
        want(wanted);
        take();
    }

    private int number(int least, int most) {
        want(NUMBER);
        int value = Integer.parseInt(letters);
        if (value < least || value > most) {
            throw new Fault(12, start);
        }
        take();
        return value;
    }

    // ======== designs

    private void readModules() {
        do {
            readModule();
        } while (!at(END));
        Module machine = modules.get(modules.size() - 1);
        int registers = machine.bits("reg");
        int outputs = machine.bits("out");
        if (machine.instances() > 200) {
            throw new Fault(20, machine.place);
        }
        if (machine.bits("in") + registers > 12 || registers > 6) {
            throw new Fault(21, machine.place);
        }
        if (outputs < 1 || outputs > 16) {
            throw new Fault(22, machine.place);
        }
    }

    private Module moduleOf(String name) {
        for (Module m : modules) {
            if (m.name.equals(name)) {
                return m;
            }
        }
        return null;
    }

    private void readModule() {
        take("module");
        want(NAME);
        if (moduleOf(letters) != null) {
            throw new Fault(10, start);
        }
        if (modules.size() == 16) {
            throw new Fault(15, start);
        }
        module = new Module(letters, start);
        take();
        take("{");
        while (!at("}")) {
            readItem();
        }
        take("}");
        modules.add(module);
    }

    private void readItem() {
        if (at(NAME)) {
            readNext();
            return;
        }
        String item = kind;
        if (!List.of("in", "out", "let", "reg", "use").contains(item)) {
            throw new Fault(2, start);
        }
        take();
        want(NAME);
        int itsPlace = start;
        String name = letters;
        if (module.find(name) != null) {
            throw new Fault(10, start);
        }
        if (module.names.size() == 40) {
            throw new Fault(15, start);
        }
        take();
        Module of = null;
        int width = 1;
        if (item.equals("use")) {
            of = readUse(itsPlace);
        } else {
            width = readRest(item);
        }
        take(";");
        module.names.add(new Told(name, item, width, of));
    }

    private int readRest(String item) {
        int width = 1;
        if (at(":")) {
            take();
            width = number(1, 8);
        }
        if (item.equals("reg") && at("=")) {
            take();
            number(0, (1 << width) - 1);
        } else if (item.equals("out") || item.equals("let")) {
            int equals = start;
            take("=");
            mustBe(width, exp(), equals);
        }
        return width;
    }

    private void mustBe(int one, int other, int where) {
        if (one != other) {
            throw new Fault(13, where);
        }
    }

    private void readNext() {
        Told told = module.find(letters);
        if (told == null || !told.kind.equals("reg") || told.driven) {
            throw new Fault(11, start);
        }
        take();
        int arrow = start;
        take("<-");
        mustBe(told.width, exp(), arrow);
        take(";");
        told.driven = true;
    }

    private Module readUse(int itsPlace) {
        want(NAME);
        Module of = moduleOf(letters);
        if (of == null) {
            throw new Fault(11, start);
        }
        take();
        take("(");
        List<Told> wanted = of.all("in");
        int count = 0;
        if (!at(")")) {
            boolean more = true;
            while (more) {
                int first = start;
                int width = exp();
                if (!wanted.isEmpty()) {
                    mustBe(wanted.get(count).width, width, first);
                }
                count++;
                more = at(",");
                if (more && count >= wanted.size()) {
                    throw new Fault(14, itsPlace);
                }
                if (more) {
                    take();
                }
            }
        }
        want(")");
        if (count != wanted.size()) {
            throw new Fault(14, itsPlace);
        }
        take();
        return of;
    }

    // ======== expressions: of designs their widths, of cells their functions

    private int exp() {
        open = 0;
        return choice();
    }

    private void openUp() {
        if (open == 60) {
            throw new Fault(3, start);
        }
        open++;
    }

    private int choice() {
        int condition = level(0);
        if (!at("?") || ofCells) {
            return condition;
        }
        int question = start;
        openUp();
        mustBe(1, condition, question);
        take();
        int one = choice();
        take(":");
        int other = choice();
        mustBe(one, other, question);
        open--;
        return one;
    }

    /** Levels 0 to 4: or, xor, and, eq, sum. */
    private int level(int level) {
        if (level == 5 || ofCells && level == 3) {
            return not();
        }
        String sign = List.of("|", "^", "&", "==", "+").get(level);
        int value = level(level + 1);
        boolean more = at(sign);
        while (more) {
            int where = start;
            take();
            int other = level(level + 1);
            if (ofCells) {
                value = level == 0 ? value | other : level == 1 ? value ^ other : value & other;
            } else {
                mustBe(value, other, where);
                value = level == 3 ? 1 : value;
            }
            more = level != 3 && at(sign);
        }
        return value;
    }

    private int not() {
        boolean turned = false;
        while (at("!")) {
            turned = !turned;
            take();
        }
        int value = primary();
        return ofCells && turned ? ~value & (1 << (1 << inputs.size())) - 1 : value;
    }

    private int primary() {
        if (at("(")) {
            openUp();
            take();
            int value = choice();
            take(")");
            open--;
            return value;
        }
        if (at(NUMBER) && !ofCells) {
            return constant();
        }
        want(NAME);
        return ofCells ? cellInput() : named();
    }

    private int constant() {
        int where = start;
        int value = Integer.parseInt(letters);
        take();
        take("@");
        int width = number(1, 8);
        if (value >= 1 << width) {
            throw new Fault(12, where);
        }
        return width;
    }

    private int named() {
        int where = start;
        Told told = module.find(letters);
        if (told == null) {
            throw new Fault(11, where);
        }
        take();
        boolean isUse = told.kind.equals("use");
        if (!at(".")) {
            if (isUse) {
                throw new Fault(11, where);
            }
            return told.width;
        }
        take();
        if (at(NUMBER)) {
            if (isUse) {
                throw new Fault(11, where);
            }
            number(0, told.width - 1);
            return 1;
        }
        want(NAME);
        if (!isUse) {
            throw new Fault(11, where);
        }
        Told output = told.of.find(letters);
        if (output == null || !output.kind.equals("out")) {
            throw new Fault(11, start);
        }
        take();
        if (!at(".")) {
            return output.width;
        }
        take();
        number(0, output.width - 1);
        return 1;
    }

    // ======== libraries

    private void readCells() {
        List<String> names = new ArrayList<>();
        do {
            take("cell");
            String name = fresh(names, 12);
            take("(");
            inputs = new ArrayList<>();
            inputs.add(fresh(inputs, 3));
            while (at(",")) {
                take();
                inputs.add(fresh(inputs, 3));
            }
            take(")");
            take("=");
            int function = exp();
            take(",");
            int area = number(1, 1000);
            take(",");
            int delay = number(1, 100);
            take(";");
            names.add(name);
            cells.add(new int[] {inputs.size(), function, area, delay});
        } while (!at(END));
    }

    private String fresh(List<String> names, int most) {
        want(NAME);
        if (names.contains(letters)) {
            throw new Fault(10, start);
        }
        if (names.size() == most) {
            throw new Fault(15, start);
        }
        String name = letters;
        take();
        return name;
    }

    private int cellInput() {
        int input = inputs.indexOf(letters);
        if (input < 0) {
            throw new Fault(11, start);
        }
        take();
        int function = 0;
        for (int s = 0; s < 1 << inputs.size(); s++) {
            function |= (s >> input & 1) << s;
        }
        return function;
    }
}
