import java.util.Arrays;

/**
 * A house that makes chips: texts of machines become graphs of gates, these cells of a library,
 * these places in rows, wires on two layers, a layout of boxes. Every row that a call works with
 * is made once, with the house, and used again: no call makes objects.
 */
public final class ChipFlow {
    public static final int NONE = -1;

    private static final int DESIGNS = 6;
    private static final int LIBRARIES = 3;
    private static final int CHIPS = 4;
    private static final int FEED_BYTES = 20;
    private static final int PAIRS = 4096;
    private static final int FALSE_PAIRS = 40;
    private static final int LATEST_TIME = 100000;
    private static final int FARTHEST = 1000;

    private final Text text;
    private final Reader reader;
    private final Builder builder;
    private final Mapper mapper;
    private final Router router;
    private final Times times;
    private final Tester tester;
    private final Design[] designs;
    private final Library[] libraries;
    private final Chip[] chips;
    private int lastFault;
    private final int[] pairFrom;
    private final int[] pairInput;
    private final int[] pairQueue;
    private final int[] silence;
    private final int[] witnessInputs;
    private int witnessSize;

    public ChipFlow() {
        text = new Text();
        reader = new Reader(text);
        builder = new Builder(reader);
        mapper = new Mapper();
        router = new Router();
        times = new Times();
        tester = new Tester();
        designs = new Design[DESIGNS];
        for (int k = 0; k < DESIGNS; k++) {
            designs[k] = new Design();
        }
        libraries = new Library[LIBRARIES];
        for (int k = 0; k < LIBRARIES; k++) {
            libraries[k] = new Library();
        }
        chips = new Chip[CHIPS];
        for (int k = 0; k < CHIPS; k++) {
            chips[k] = new Chip();
        }
        pairFrom = new int[PAIRS];
        pairInput = new int[PAIRS];
        pairQueue = new int[PAIRS];
        silence = new int[Design.PATTERNS];
        witnessInputs = new int[PAIRS];
    }

    // ======== texts

    public int feed(int a, int b, int c, int d, int e) throws UnsupportedOperationException {
        needRoom(text.length + FEED_BYTES <= Text.SIZE);
        text.append(a);
        text.append(b);
        text.append(c);
        text.append(d);
        text.append(e);
        return text.length;
    }

    public void end(int n) throws IllegalArgumentException {
        needRange(n >= 0 && n <= text.length);
        text.length = n;
    }

    public int design() throws UnsupportedOperationException {
        int slot = freeDesign();
        needRoom(slot != NONE);
        int answer = slot;
        lastFault = 0;
        try {
            reader.readDesign();
            builder.build(designs[slot]);
        } catch (IllegalStateException fault) {
            lastFault = text.faultCode;
            answer = -1 - text.faultPlace;
        }
        text.length = 0;
        return answer;
    }

    public int library() throws UnsupportedOperationException {
        int slot = freeLibrary();
        needRoom(slot != NONE);
        int answer = slot;
        lastFault = 0;
        try {
            reader.readLibrary(libraries[slot]);
        } catch (IllegalStateException fault) {
            lastFault = text.faultCode;
            answer = -1 - text.faultPlace;
        }
        text.length = 0;
        return answer;
    }

    public int fault() {
        return lastFault;
    }

    public int tape() {
        return text.length;
    }

    public void drop(int kind, int k) throws IllegalArgumentException, IndexOutOfBoundsException {
        needRange(kind >= 0 && kind <= 2);
        if (kind == 0) {
            designAt(k).used = false;
        } else if (kind == 1) {
            libraryAt(k).used = false;
        } else {
            chipAt(k).used = false;
        }
    }

    public boolean isThere(int kind, int k) throws IllegalArgumentException {
        needRange(kind >= 0 && kind <= 2);
        if (kind == 0) {
            return k >= 0 && k < DESIGNS && designs[k].used;
        }
        if (kind == 1) {
            return k >= 0 && k < LIBRARIES && libraries[k].used;
        }
        return k >= 0 && k < CHIPS && chips[k].used;
    }

    // ======== graphs and libraries

    public int graph(int design, int what) throws IndexOutOfBoundsException, IllegalArgumentException {
        Design d = designAt(design);
        needRange(what >= 0 && what <= 7);
        switch (what) {
            case 0: return d.inputs;
            case 1: return d.registers;
            case 2: return d.outputs;
            case 3: return d.nodes - d.firstAnd();
            case 4: return d.depth;
            case 5: return d.sweptAnds;
            case 6: return d.reached;
            default: return d.beginning;
        }
    }

    public int literal(int design, int node, int side) throws IndexOutOfBoundsException {
        Design d = designAt(design);
        needThere(node >= d.firstAnd() && node < d.nodes);
        needThere(side == 0 || side == 1);
        return side == 0 ? d.low[node] : d.high[node];
    }

    public int swept(int design, int node) throws IndexOutOfBoundsException {
        Design d = designAt(design);
        needThere(node >= 0 && node < d.nodes);
        return d.standsFor[node];
    }

    public int root(int design, int k, boolean next) throws IndexOutOfBoundsException {
        Design d = designAt(design);
        needThere(k >= 0 && k < (next ? d.registers : d.outputs));
        return next ? d.nextRoot[k] : d.outRoot[k];
    }

    public int cell(int library, int k, int what) throws IndexOutOfBoundsException, IllegalArgumentException {
        Library cells = libraryAt(library);
        needThere(k >= NONE && k < cells.count);
        needRange(what >= 0 && what <= 3);
        if (k == NONE) {
            return what == 0 ? cells.count : what == 1 ? cells.inverter : 0;
        }
        switch (what) {
            case 0: return cells.inputs[k];
            case 1: return cells.table[k];
            case 2: return cells.area[k];
            default: return cells.delay[k];
        }
    }

    // ======== runs

    public int play(int design, int input) throws IndexOutOfBoundsException, IllegalArgumentException {
        Design d = designAt(design);
        needRange(input >= 0 && input < 1 << d.inputs);
        int clock = d.table[input | d.current << d.inputs];
        d.current = clock >> Design.OUTPUTS;
        return clock & Design.OUTPUT_BITS;
    }

    public int state(int design) throws IndexOutOfBoundsException {
        return designAt(design).current;
    }

    public int restart(int design) throws IndexOutOfBoundsException {
        Design d = designAt(design);
        int before = d.current;
        d.current = d.beginning;
        return before;
    }

    public int equal(int a, int b) throws IndexOutOfBoundsException, IllegalArgumentException {
        Design one = designAt(a);
        Design other = designAt(b);
        needRange(one.inputs == other.inputs && one.outputs == other.outputs);
        return compare(one.table, one.beginning, other, Design.OUTPUT_BITS);
    }

    public int never(int design, int k) throws IndexOutOfBoundsException {
        Design d = designAt(design);
        needThere(k >= 0 && k < d.outputs);
        // A machine whose outputs are always 0 differs in bit k just when that bit is 1.
        return compare(silence, 0, d, 1 << k);
    }

    public int witness(int k) throws IndexOutOfBoundsException {
        needThere(k >= 0 && k < witnessSize);
        return witnessInputs[k];
    }

    // ======== chips

    public int map(int design, int library) throws IndexOutOfBoundsException, UnsupportedOperationException {
        Design d = designAt(design);
        Library cells = libraryAt(library);
        int slot = freeChip();
        needRoom(slot != NONE);
        int answer = mapper.build(d, cells, chips[slot]);
        if (answer != 0) {
            return answer;
        }
        tester.fillTable(chips[slot]);
        chips[slot].used = true;
        return slot;
    }

    public int chip(int chip, int what) throws IndexOutOfBoundsException, IllegalArgumentException {
        Chip c = chipAt(chip);
        needRange(what >= 0 && what <= 7);
        boolean placed = c.board.rows > 0;
        switch (what) {
            case 0: return c.gates;
            case 1: return c.nets();
            case 2: return c.registers;
            case 3: return c.gateArea();
            case 4: return c.elements();
            case 5: return c.board.rows;
            case 6: return placed ? c.board.height : 0;
            default: return placed ? c.board.sites : 0;
        }
    }

    public int gate(int chip, int gate, int what) throws IndexOutOfBoundsException, IllegalArgumentException {
        Chip c = chipAt(chip);
        needThere(gate >= 0 && gate < c.gates);
        needRange(what >= 0 && what <= 4);
        if (what == 0) {
            return c.gateCell[gate];
        }
        if (what == 4) {
            return c.firstGateNet() + gate;
        }
        return what <= c.gateInputs(gate) ? c.gateNet[3 * gate + what - 1] : NONE;
    }

    public int netOf(int chip, int k, boolean next) throws IndexOutOfBoundsException {
        Chip c = chipAt(chip);
        needThere(k >= 0 && k < (next ? c.registers : c.outputs));
        return next ? c.nextNet[k] : c.outNet[k];
    }

    public int alter(int chip, int gate, int cell) throws IndexOutOfBoundsException, IllegalArgumentException {
        Chip c = chipAt(chip);
        needThere(gate >= 0 && gate < c.gates);
        needThere(cell >= 0 && cell < c.cells.count);
        needRange(c.cells.inputs[cell] == c.gateInputs(gate));
        int before = c.gateCell[gate];
        c.gateCell[gate] = cell;
        c.setSize = NONE;
        c.logicStamp++;
        c.board.timeStamp++;
        tester.fillTable(c);
        return before;
    }

    public int run(int chip, int input) throws IndexOutOfBoundsException, IllegalArgumentException {
        Chip c = chipAt(chip);
        needRange(input >= 0 && input < 1 << c.inputs);
        int clock = c.table[input | c.current << c.inputs];
        c.current = clock >> Design.OUTPUTS;
        return clock & Design.OUTPUT_BITS;
    }

    public int reset(int chip) throws IndexOutOfBoundsException {
        Chip c = chipAt(chip);
        int before = c.current;
        c.current = c.beginning;
        return before;
    }

    public int proves(int chip, int design) throws IndexOutOfBoundsException, IllegalArgumentException {
        Chip c = chipAt(chip);
        Design d = designAt(design);
        needRange(c.inputs == d.inputs && c.outputs == d.outputs);
        return compare(c.table, c.beginning, d, Design.OUTPUT_BITS);
    }

    // ======== places

    public int place(int chip, int sites) throws IndexOutOfBoundsException, IllegalArgumentException {
        Chip c = chipAt(chip);
        needRange(sites >= Board.LEAST_SITES && sites <= Board.MOST_SITES);
        return c.board.placeAll(c, sites);
    }

    public int at(int chip, int element, int what)
            throws IndexOutOfBoundsException, IllegalArgumentException, IllegalStateException {
        Chip c = chipAt(chip);
        needThere(element >= 0 && element < c.elements());
        needRange(what == 0 || what == 1);
        needNow(c.board.rows > 0);
        return what == 0 ? c.board.siteOf[element] : c.board.rowOf[element];
    }

    public boolean move(int chip, int element, int site, int row)
            throws IndexOutOfBoundsException, IllegalStateException {
        Chip c = chipAt(chip);
        needThere(element >= 0 && element < c.elements());
        needNow(c.board.rows > 0);
        return c.board.moveOne(c, element, site, row);
    }

    public int improve(int chip, int passes)
            throws IndexOutOfBoundsException, IllegalArgumentException, IllegalStateException {
        Chip c = chipAt(chip);
        needRange(passes >= 1 && passes <= 4);
        needNow(c.board.rows > 0);
        c.board.exchangeAll(c, passes);
        return c.board.wholeWire(c.nets());
    }

    public int wire(int chip, int net) throws IndexOutOfBoundsException, IllegalStateException {
        Chip c = chipAt(chip);
        needThere(net >= NONE && net < c.nets());
        needNow(c.board.rows > 0);
        return net == NONE ? c.board.wholeWire(c.nets()) : c.board.netWire[net];
    }

    // ======== wires

    public int route(int chip, int rounds)
            throws IndexOutOfBoundsException, IllegalArgumentException, IllegalStateException {
        Chip c = chipAt(chip);
        needRange(rounds >= 0 && rounds <= 12);
        needNow(c.board.rows > 0);
        c.board.layout.drawn = false;
        return router.routeAll(c.board, c.nets(), rounds);
    }

    public int point(int chip, int number) throws IndexOutOfBoundsException, IllegalStateException {
        Chip c = chipAt(chip);
        needThere(number >= 0 && (!c.board.routed || number < c.board.points()));
        needNow(c.board.routed);
        return c.board.owner[number];
    }

    public int routed(int chip, int net, int what)
            throws IndexOutOfBoundsException, IllegalArgumentException, IllegalStateException {
        Chip c = chipAt(chip);
        needThere(net >= 0 && net < c.nets());
        needRange(what >= 0 && what <= 4);
        needNow(c.board.routed);
        if (what == 3) {
            return c.board.open[net];
        }
        return what == 4 ? c.board.netPins[net] : c.board.countWire(net, what);
    }

    // ======== layout

    public int draw(int chip)
            throws IndexOutOfBoundsException, IllegalStateException, UnsupportedOperationException {
        Chip c = chipAt(chip);
        needNow(c.board.routed);
        int boxes = c.board.layout.countBoxes(c.board, c.nets());
        needRoom(boxes <= Layout.BOXES);
        c.board.layout.drawBoxes(c.board, c.nets());
        return boxes;
    }

    public int box(int chip, int box, int what)
            throws IndexOutOfBoundsException, IllegalArgumentException, IllegalStateException {
        Layout layout = chipAt(chip).board.layout;
        needThere(box >= NONE && (!layout.drawn || box < layout.count));
        needRange(what >= 0 && what <= (box == NONE ? 0 : 4));
        needNow(layout.drawn);
        return box == NONE ? layout.count : layout.boxes[Layout.STRIDE * box + what];
    }

    public int add(int chip, int layer, int x0, int y0, int x1, int y1)
            throws IndexOutOfBoundsException, IllegalArgumentException, IllegalStateException,
            UnsupportedOperationException {
        Layout layout = chipAt(chip).board.layout;
        needRange(layer >= 0 && layer <= 2);
        needRange(x0 >= -FARTHEST && x0 < x1 && x1 <= FARTHEST);
        needRange(y0 >= -FARTHEST && y0 < y1 && y1 <= FARTHEST);
        needNow(layout.drawn);
        needRoom(layout.count < Layout.BOXES);
        layout.setBox(layout.count, layer, x0, y0, x1, y1);
        layout.count++;
        layout.forget();
        return layout.count - 1;
    }

    public int erase(int chip, int box) throws IndexOutOfBoundsException, IllegalStateException {
        Layout layout = chipAt(chip).board.layout;
        needThere(box >= 0 && (!layout.drawn || box < layout.count));
        needNow(layout.drawn);
        layout.removeBox(box);
        return layout.count;
    }

    public int check(int chip) throws IndexOutOfBoundsException, IllegalStateException {
        Layout layout = chipAt(chip).board.layout;
        needNow(layout.drawn);
        layout.judge();
        return layout.violations;
    }

    public int violation(int chip, int k, int side) throws IndexOutOfBoundsException, IllegalStateException {
        Layout layout = chipAt(chip).board.layout;
        needThere(k >= 0 && (side == 0 || side == 1));
        needNow(layout.drawn);
        layout.judge();
        needThere(k < layout.violations);
        return layout.sideOf(k, side);
    }

    public int found(int chip, int what)
            throws IndexOutOfBoundsException, IllegalArgumentException, IllegalStateException {
        Chip c = chipAt(chip);
        Layout layout = c.board.layout;
        needRange(what >= 0 && what <= 4);
        needNow(layout.drawn);
        layout.findAgain(c.board, c.registers);
        switch (what) {
            case 0: return layout.shorts == 0 && layout.opens == 0 ? 1 : 0;
            case 1: return layout.shorts;
            case 2: return layout.opens;
            case 3: return layout.pinnedParts;
            default: return layout.looseParts;
        }
    }

    // ======== time

    public int arrival(int chip, int net, boolean late) throws IndexOutOfBoundsException {
        Chip c = chipAt(chip);
        needThere(net >= 0 && net < c.nets());
        return times.arrivalOf(c, net, late);
    }

    public boolean falsify(int chip, int net, int end)
            throws IndexOutOfBoundsException, UnsupportedOperationException {
        Chip c = chipAt(chip);
        needThere(net >= 0 && net < c.firstGateNet());
        needThere(end >= 0 && end < c.ends() && c.endNet(end) >= 0);
        if ((c.falseEnds[net] >> end & 1) != 0) {
            return false;
        }
        needRoom(c.falsePairs < FALSE_PAIRS);
        c.falseEnds[net] |= 1 << end;
        c.falsePairs++;
        c.board.timeStamp++;
        return true;
    }

    public int path(int chip, int k, int what) throws IndexOutOfBoundsException {
        Chip c = chipAt(chip);
        needThere(k >= 0 && k < Times.PATHS);
        needThere(what >= -3);
        times.findPaths(c);
        return times.pathPart(k, what);
    }

    // ======== waves

    public int wave(int chip, int a, int b, int net, int time)
            throws IndexOutOfBoundsException, IllegalArgumentException, UnsupportedOperationException {
        Chip c = chipAt(chip);
        needThere(net >= 0 && net < c.nets());
        needRange(c.isPattern(a) && c.isPattern(b));
        needRange(time >= -1 && time <= LATEST_TIME);
        times.makeWave(c, a, b);
        needRoom(!times.waveTooLong);
        return times.valueAt(net, time);
    }

    public int changes(int chip, int a, int b, int net)
            throws IndexOutOfBoundsException, IllegalArgumentException, UnsupportedOperationException {
        Chip c = chipAt(chip);
        needThere(net >= NONE && net < c.nets());
        needRange(c.isPattern(a) && c.isPattern(b));
        times.makeWave(c, a, b);
        needRoom(!times.waveTooLong);
        return net == NONE ? times.restTime(c.nets()) : times.changesOf(net);
    }

    // ======== tests

    public int test(int chip, int fault) throws IndexOutOfBoundsException {
        Chip c = chipAt(chip);
        needThere(fault >= 0 && fault < c.faultCount());
        return tester.leastPattern(c, fault);
    }

    public boolean shows(int chip, int pattern, int fault)
            throws IndexOutOfBoundsException, IllegalArgumentException {
        Chip c = chipAt(chip);
        needThere(fault >= 0 && fault < c.faultCount());
        needRange(c.isPattern(pattern));
        tester.workFault(c, fault);
        return tester.isShown(pattern, fault);
    }

    public int tests(int chip) throws IndexOutOfBoundsException {
        Chip c = chipAt(chip);
        tester.makeSet(c);
        return c.setSize;
    }

    public int pattern(int chip, int k) throws IndexOutOfBoundsException, IllegalStateException {
        Chip c = chipAt(chip);
        needPattern(c, k);
        return c.setPattern[k];
    }

    public boolean fails(int chip, int k, boolean is) throws IndexOutOfBoundsException, IllegalStateException {
        Chip c = chipAt(chip);
        needPattern(c, k);
        boolean before = c.setFails[k] != 0;
        c.setFails[k] = is ? 1 : 0;
        return before;
    }

    public int suspect(int chip, int k) throws IndexOutOfBoundsException, IllegalStateException {
        Chip c = chipAt(chip);
        needThere(k >= 0);
        needNow(c.setSize != NONE);
        return tester.suspectOf(c, k);
    }

    public int faults(int chip, int what) throws IndexOutOfBoundsException, IllegalArgumentException {
        Chip c = chipAt(chip);
        needRange(what >= 0 && what <= 2);
        if (what == 0) {
            return c.faultCount();
        }
        if (what == 1) {
            return tester.countHidden(c);
        }
        return c.setSize == NONE ? NONE : tester.countShownBySet(c);
    }

    // ======== what calls want

    private static void needThere(boolean there) {
        if (!there) {
            throw new IndexOutOfBoundsException();
        }
    }

    private static void needRange(boolean inRange) {
        if (!inRange) {
            throw new IllegalArgumentException();
        }
    }

    private static void needNow(boolean now) {
        if (!now) {
            throw new IllegalStateException();
        }
    }

    private static void needRoom(boolean room) {
        if (!room) {
            throw new UnsupportedOperationException();
        }
    }

    private static void needPattern(Chip c, int k) {
        needThere(k >= 0 && (c.setSize == NONE || k < c.setSize));
        needNow(c.setSize != NONE);
    }

    private Design designAt(int k) {
        needThere(k >= 0 && k < DESIGNS && designs[k].used);
        return designs[k];
    }

    private Library libraryAt(int k) {
        needThere(k >= 0 && k < LIBRARIES && libraries[k].used);
        return libraries[k];
    }

    private Chip chipAt(int k) {
        needThere(k >= 0 && k < CHIPS && chips[k].used);
        return chips[k];
    }

    private int freeDesign() {
        for (int k = 0; k < DESIGNS; k++) {
            if (!designs[k].used) {
                return k;
            }
        }
        return NONE;
    }

    private int freeLibrary() {
        for (int k = 0; k < LIBRARIES; k++) {
            if (!libraries[k].used) {
                return k;
            }
        }
        return NONE;
    }

    private int freeChip() {
        for (int k = 0; k < CHIPS; k++) {
            if (!chips[k].used) {
                return k;
            }
        }
        return NONE;
    }

    // ======== machines compared

    /**
     * The least number of clocks at whose last one the outputs in mask differ, or 0. Pairs of
     * states stand in the queue by the least inputs that lead to them, so the first difference
     * that is met has the least witness of all shortest ones.
     */
    private int compare(int[] table, int begin, Design other, int mask) {
        witnessSize = 0;
        int inputs = other.inputs;
        Arrays.fill(pairFrom, -2);
        int first = begin << 6 | other.beginning;
        pairFrom[first] = NONE;
        pairQueue[0] = first;
        int tail = 1;
        for (int head = 0; head < tail && head < PAIRS; head++) {
            int pair = pairQueue[head];
            int here = pair >> 6 << inputs;
            int there = (pair & 63) << inputs;
            for (int input = 0; input < 1 << inputs; input++) {
                int one = table[here | input];
                int two = other.table[there | input];
                if (((one ^ two) & mask) != 0) {
                    keepWitness(pair, input);
                    return witnessSize;
                }
                int next = one >> Design.OUTPUTS << 6 | two >> Design.OUTPUTS;
                if (pairFrom[next] == -2) {
                    pairFrom[next] = pair;
                    pairInput[next] = input;
                    pairQueue[tail] = next;
                    tail++;
                }
            }
        }
        return 0;
    }

    private void keepWitness(int lastPair, int lastInput) {
        int clocks = 1;
        for (int pair = lastPair; pairFrom[pair] != NONE && clocks < PAIRS; pair = pairFrom[pair]) {
            clocks++;
        }
        witnessSize = clocks;
        witnessInputs[clocks - 1] = lastInput;
        int pair = lastPair;
        for (int k = clocks - 2; k >= 0; k--) {
            witnessInputs[k] = pairInput[pair];
            pair = pairFrom[pair];
        }
    }

    // ======== the tape

    /** The tape and its token at hand; a fault of a text is told here and thrown to the face. */
    private static final class Text {
        static final int SIZE = 65536;
        static final int END = 0;
        static final int NAME = 1;
        static final int NUMBER = 2;
        static final int MODULE = 3;
        static final int IN = 4;
        static final int OUT = 5;
        static final int LET = 6;
        static final int REG = 7;
        static final int USE = 8;
        static final int CELL = 9;
        static final int ARROW = 256;
        static final int SAME = 257;
        private static final int NAME_BYTES = 12;
        private static final int NUMBER_BYTES = 6;
        private static final String SIGNS = "(){};,=.:&|^!+?@";
        /** The words module in out let reg use cell, 7 bits a letter, in the order of their kinds. */
        private static final long[] WORDS = {
            3775219463781L, 13550L, 1833716L, 1782516L, 1880807L, 1931749L, 209286764L};

        final byte[] bytes = new byte[SIZE];
        int length;
        int kind;
        int start;
        int size;
        int value;
        int faultCode;
        int faultPlace;
        private int next;

        void append(int number) {
            for (int shift = 24; shift >= 0; shift -= 8) {
                if (length < SIZE) {
                    bytes[length] = (byte) (number >> shift);
                    length++;
                }
            }
        }

        void begin() {
            next = 0;
            faultCode = 0;
            faultPlace = 0;
            advance();
        }

        void fail(int code, int place) {
            faultCode = code;
            faultPlace = place;
            throw new IllegalStateException();
        }

        void need(int wanted) {
            if (kind != wanted) {
                fail(2, start);
            }
            advance();
        }

        int packedName() {
            return start << 4 | size;
        }

        boolean sameNames(int a, int b) {
            int letters = a & 15;
            if (letters != (b & 15)) {
                return false;
            }
            int atA = a >> 4;
            int atB = b >> 4;
            for (int k = 0; k < letters; k++) {
                if (bytes[atA + k] != bytes[atB + k]) {
                    return false;
                }
            }
            return true;
        }

        void advance() {
            skipBlanks();
            start = next;
            size = 0;
            if (next >= length) {
                kind = END;
                return;
            }
            int b = bytes[next];
            boolean good;
            if ((b | 32) >= 'a' && (b | 32) <= 'z' || b == '_') {
                good = readName();
            } else if (b >= '0' && b <= '9') {
                good = readNumber();
            } else {
                good = readSign(b);
            }
            if (!good) {
                fail(1, start);
            }
        }

        private void skipBlanks() {
            boolean comment = false;
            while (next < length) {
                int b = bytes[next];
                if (b == '#') {
                    comment = true;
                } else if (b == 10) {
                    comment = false;
                } else if (!comment && b != 9 && b != 13 && b != 32) {
                    return;
                }
                next++;
            }
        }

        private boolean readName() {
            long letters = 0;
            while (next < length) {
                int b = bytes[next];
                boolean letter = (b | 32) >= 'a' && (b | 32) <= 'z' || b == '_';
                if (!letter && (b < '0' || b > '9')) {
                    break;
                }
                // A long has room for eight letters; no word has more, so longer names need no number.
                letters = size < 8 ? letters << 7 | b : 0;
                size++;
                next++;
            }
            kind = NAME;
            for (int k = 0; k < WORDS.length; k++) {
                if (letters == WORDS[k]) {
                    kind = MODULE + k;
                }
            }
            return size <= NAME_BYTES;
        }

        private boolean readNumber() {
            value = 0;
            while (next < length && bytes[next] >= '0' && bytes[next] <= '9') {
                if (size < NUMBER_BYTES) {
                    value = 10 * value + bytes[next] - '0';
                }
                size++;
                next++;
            }
            kind = NUMBER;
            return size <= NUMBER_BYTES;
        }

        private boolean readSign(int b) {
            int behind = next + 1 < length ? bytes[next + 1] : 0;
            if (b == '<' && behind == '-') {
                kind = ARROW;
                next += 2;
                return true;
            }
            if (b == '=' && behind == '=') {
                kind = SAME;
                next += 2;
                return true;
            }
            kind = b;
            next++;
            return b > 0 && SIGNS.indexOf((char) b) >= 0;
        }
    }

    // ======== texts read

    /**
     * Reads texts. A design becomes code, a word for each thing to do, since a module is worked
     * out anew for each of its instances; a cell's expression is worked out as it is read.
     */
    private static final class Reader {
        static final int MODULES = 16;
        static final int NAMES = 40;
        private static final int CELL_INPUTS = 3;
        /** Of a library, names stand in the rows of two modules: its cells, the inputs of the one at hand. */
        private static final int CELL_ROW = 0;
        private static final int INPUT_ROW = 1;
        private static final int MOST_OPEN = 60;
        static final int MOST_WIDE = 8;

        static final int INPUT = 0;
        static final int OUTPUT = 1;
        static final int LOCAL = 2;
        static final int REGISTER = 3;
        static final int DRIVEN = 4;
        static final int INSTANCE = 5;

        /** Codes up to ADD are the levels of their operators, too. */
        static final int OR = 1;
        static final int XOR = 2;
        static final int AND = 3;
        static final int SAME = 4;
        static final int ADD = 5;
        static final int NOT = 6;
        static final int CHOICE = 7;
        static final int CONSTANT = 8;
        static final int LOAD = 9;
        static final int PART = 10;
        static final int BIT = 11;
        static final int STORE = 12;
        static final int HOLD = 13;
        static final int NEXT = 14;
        static final int BEGIN_USE = 15;
        static final int ARGUMENT = 16;
        static final int CALL = 17;

        private static final int PAREN = -1;
        private static final int TURNED_PAREN = -2;
        private static final int QUESTION = -3;
        private static final int COLON = -4;

        private static final int[] INPUT_TABLES = {0xAA, 0xCC, 0xF0};

        final Text text;
        final int[] code = new int[Text.SIZE];
        private int codeSize;
        int modules;
        final int[] moduleName = new int[MODULES];
        final int[] moduleCode = new int[MODULES + 1];
        final int[] moduleNames = new int[MODULES + 1];
        final int[] name = new int[MODULES * NAMES];
        final int[] sort = new int[MODULES * NAMES];
        final int[] width = new int[MODULES * NAMES];
        final int[] detail = new int[MODULES * NAMES];
        private Library library;
        private final int[] opKind = new int[8 * (MOST_OPEN + 1)];
        private final int[] opPlace = new int[8 * (MOST_OPEN + 1)];
        private int opTop;
        private final int[] held = new int[8 * (MOST_OPEN + 1)];
        private int heldTop;
        private int open;

        Reader(Text text) {
            this.text = text;
        }

        void readDesign() {
            library = null;
            modules = 0;
            codeSize = 0;
            moduleCode[0] = 0;
            text.begin();
            beginModule();
            boolean more = true;
            for (int guard = 0; guard < Text.SIZE && more; guard++) {
                switch (text.kind) {
                    case Text.IN:
                        readInput();
                        break;
                    case Text.OUT:
                        readValue(OUTPUT);
                        break;
                    case Text.LET:
                        readValue(LOCAL);
                        break;
                    case Text.REG:
                        readRegister();
                        break;
                    case Text.USE:
                        readUse();
                        break;
                    case Text.NAME:
                        readNext();
                        break;
                    default:
                        more = endModule();
                }
            }
        }

        private void beginModule() {
            text.need(Text.MODULE);
            if (text.kind != Text.NAME) {
                text.fail(2, text.start);
            }
            int fresh = text.packedName();
            if (findModule(fresh) != NONE) {
                text.fail(10, text.start);
            }
            if (modules == MODULES) {
                text.fail(15, text.start);
            }
            moduleName[modules] = fresh;
            moduleNames[modules] = 0;
            text.advance();
            text.need('{');
        }

        /** A module is told behind its end: whether another one begins there. */
        private boolean endModule() {
            text.need('}');
            modules++;
            moduleCode[modules] = codeSize;
            if (text.kind == Text.END) {
                return false;
            }
            beginModule();
            return true;
        }

        private int findModule(int wanted) {
            for (int m = 0; m < modules; m++) {
                if (text.sameNames(moduleName[m], wanted)) {
                    return m;
                }
            }
            return NONE;
        }

        private int find(int module, int wanted) {
            for (int s = 0; s < moduleNames[module]; s++) {
                if (text.sameNames(name[module * NAMES + s], wanted)) {
                    return s;
                }
            }
            return NONE;
        }

        /** A name that is to be told among those of a row, of which there may be so many. */
        private int newName(int row, int most) {
            if (text.kind != Text.NAME) {
                text.fail(2, text.start);
            }
            int fresh = text.packedName();
            if (find(row, fresh) != NONE) {
                text.fail(10, text.start);
            }
            if (moduleNames[row] == most) {
                text.fail(15, text.start);
            }
            text.advance();
            return fresh;
        }

        private void tell(int fresh, int itsSort, int itsWidth, int itsDetail) {
            int at = modules * NAMES + moduleNames[modules];
            name[at] = fresh;
            sort[at] = itsSort;
            width[at] = itsWidth;
            detail[at] = itsDetail;
            moduleNames[modules]++;
        }

        /** The number at hand, which is not taken yet: what lies behind it is met later. */
        private int numberAtHand(int least, int most) {
            if (text.kind != Text.NUMBER) {
                text.fail(2, text.start);
            }
            if (text.value < least || text.value > most) {
                text.fail(12, text.start);
            }
            return text.value;
        }

        private int readWidth() {
            if (text.kind != ':') {
                return 1;
            }
            text.advance();
            int wide = numberAtHand(1, MOST_WIDE);
            text.advance();
            return wide;
        }

        private void readInput() {
            text.advance();
            int fresh = newName(modules, NAMES);
            int wide = readWidth();
            text.need(';');
            tell(fresh, INPUT, wide, 0);
        }

        private void readValue(int itsSort) {
            text.advance();
            int fresh = newName(modules, NAMES);
            int wide = readWidth();
            int place = text.start;
            text.need('=');
            if (expression() != wide) {
                text.fail(13, place);
            }
            emit(STORE, moduleNames[modules], 0);
            text.need(';');
            tell(fresh, itsSort, wide, 0);
        }

        private void readRegister() {
            text.advance();
            int fresh = newName(modules, NAMES);
            int wide = readWidth();
            int begin = 0;
            if (text.kind == '=') {
                text.advance();
                begin = numberAtHand(0, (1 << wide) - 1);
                text.advance();
            }
            emit(HOLD, moduleNames[modules], 0);
            text.need(';');
            tell(fresh, REGISTER, wide, begin);
        }

        private void readNext() {
            int symbol = find(modules, text.packedName());
            int at = modules * NAMES + symbol;
            if (symbol == NONE || sort[at] != REGISTER) {
                text.fail(11, text.start);
            }
            text.advance();
            int place = text.start;
            text.need(Text.ARROW);
            if (expression() != width[at]) {
                text.fail(13, place);
            }
            emit(NEXT, symbol, 0);
            sort[at] = DRIVEN;
            text.need(';');
        }

        private void readUse() {
            text.advance();
            int place = text.start;
            int fresh = newName(modules, NAMES);
            if (text.kind != Text.NAME) {
                text.fail(2, text.start);
            }
            int module = findModule(text.packedName());
            if (module == NONE) {
                text.fail(11, text.start);
            }
            text.advance();
            text.need('(');
            int symbol = moduleNames[modules];
            emit(BEGIN_USE, symbol, 0);
            readArguments(module, symbol, place);
            emit(CALL, symbol, module);
            text.need(';');
            tell(fresh, INSTANCE, 0, module);
        }

        private void readArguments(int module, int symbol, int place) {
            int input = nextInput(module, 0);
            boolean more = text.kind != ')';
            boolean tooMany = false;
            for (int guard = 0; guard < Text.SIZE && more; guard++) {
                int first = text.start;
                int wide = expression();
                if (input == NONE) {
                    tooMany = true;
                } else {
                    if (wide != width[module * NAMES + input]) {
                        text.fail(13, first);
                    }
                    emit(ARGUMENT, symbol, input);
                    input = nextInput(module, input + 1);
                }
                more = text.kind == ',';
                if (more) {
                    if (input == NONE) {
                        text.fail(14, place);
                    }
                    text.advance();
                }
            }
            if (text.kind == ')' && (tooMany || input != NONE)) {
                text.fail(14, place);
            }
            text.need(')');
        }

        private int nextInput(int module, int from) {
            for (int s = from; s < moduleNames[module]; s++) {
                if (sort[module * NAMES + s] == INPUT) {
                    return s;
                }
            }
            return NONE;
        }

        void readLibrary(Library cells) {
            library = cells;
            cells.count = 0;
            moduleNames[CELL_ROW] = 0;
            text.begin();
            for (int guard = 0; guard <= Library.CELLS && (cells.count == 0 || text.kind != Text.END); guard++) {
                text.need(Text.CELL);
                int fresh = newName(CELL_ROW, Library.CELLS);
                text.need('(');
                readCellInputs();
                text.need('=');
                int states = 1 << moduleNames[INPUT_ROW];
                int table = expression() & (1 << states) - 1;
                text.need(',');
                int area = readMeasure(1000);
                text.need(',');
                int delay = readMeasure(100);
                text.need(';');
                name[CELL_ROW * NAMES + cells.count] = fresh;
                moduleNames[CELL_ROW]++;
                cells.addCell(moduleNames[INPUT_ROW], table, area, delay);
            }
            cells.findInverter();
            cells.used = true;
        }

        private void readCellInputs() {
            moduleNames[INPUT_ROW] = 0;
            boolean more = true;
            for (int guard = 0; guard <= CELL_INPUTS && more; guard++) {
                int fresh = newName(INPUT_ROW, CELL_INPUTS);
                name[INPUT_ROW * NAMES + moduleNames[INPUT_ROW]] = fresh;
                moduleNames[INPUT_ROW]++;
                more = text.kind == ',';
                if (more) {
                    text.advance();
                }
            }
            text.need(')');
        }

        private int readMeasure(int most) {
            int measure = numberAtHand(1, most);
            text.advance();
            return measure;
        }

        /** Reads an expression: its width, or of a cell the table of its values. */
        private int expression() {
            opTop = 0;
            heldTop = 0;
            open = 0;
            boolean more = true;
            for (int guard = 0; guard < Text.SIZE && more; guard++) {
                boolean turned = readOpenings();
                if (library == null && text.kind == Text.NUMBER) {
                    readConstant();
                } else if (text.kind != Text.NAME) {
                    text.fail(2, text.start);
                } else if (library == null) {
                    readNamed();
                } else {
                    readCellInput();
                }
                if (turned) {
                    turnHeld();
                }
                more = readOperators();
            }
            return held[0];
        }

        private boolean readOpenings() {
            boolean turned = false;
            for (int guard = 0; guard < Text.SIZE; guard++) {
                if (text.kind == '!') {
                    turned = !turned;
                } else if (text.kind == '(') {
                    openUp(turned ? TURNED_PAREN : PAREN);
                    turned = false;
                } else {
                    return turned;
                }
                text.advance();
            }
            return turned;
        }

        private void openUp(int marker) {
            if (open == MOST_OPEN) {
                text.fail(3, text.start);
            }
            open++;
            push(marker);
        }

        private void push(int kind) {
            if (opTop < opKind.length) {
                opKind[opTop] = kind;
                opPlace[opTop] = text.start;
                opTop++;
            }
        }

        private void hold(int value) {
            if (heldTop < held.length) {
                held[heldTop] = value;
                heldTop++;
            }
        }

        private void turnHeld() {
            if (library == null) {
                emit(NOT, 0, 0);
            } else {
                held[heldTop - 1] ^= 0xFF;
            }
        }

        private void emit(int what, int a, int b) {
            if (codeSize < code.length) {
                code[codeSize] = what | a << 5 | b << 11;
                codeSize++;
            }
        }

        private void readCellInput() {
            int input = find(INPUT_ROW, text.packedName());
            if (input == NONE) {
                text.fail(11, text.start);
            }
            hold(INPUT_TABLES[input]);
            text.advance();
        }

        private void readConstant() {
            int place = text.start;
            int value = text.value;
            text.advance();
            if (text.kind != '@') {
                text.fail(2, text.start);
            }
            text.advance();
            int wide = numberAtHand(1, MOST_WIDE);
            text.advance();
            if (value >> wide != 0) {
                text.fail(12, place);
            }
            emit(CONSTANT, wide, value);
            hold(wide);
        }

        /** The sort of a name is looked at only when it is clear whether a bit or an output is meant. */
        private void readNamed() {
            int place = text.start;
            int symbol = find(modules, text.packedName());
            if (symbol == NONE) {
                text.fail(11, place);
            }
            int at = modules * NAMES + symbol;
            text.advance();
            boolean dot = text.kind == '.';
            if (dot) {
                text.advance();
            }
            if (dot && text.kind != Text.NUMBER && text.kind != Text.NAME) {
                text.fail(2, text.start);
            }
            boolean part = dot && text.kind == Text.NAME;
            if (part != (sort[at] == INSTANCE)) {
                text.fail(11, place);
            }
            int wide = width[at];
            if (part) {
                wide = namePart(symbol, detail[at], find(detail[at], text.packedName()));
                text.advance();
                dot = text.kind == '.';
                if (dot) {
                    text.advance();
                }
            } else {
                emit(LOAD, symbol, 0);
            }
            if (dot) {
                emit(BIT, numberAtHand(0, wide - 1), 0);
                text.advance();
            }
            hold(dot ? 1 : wide);
        }

        /** The output of an instance that is at hand: its width. */
        private int namePart(int symbol, int module, int output) {
            int at = module * NAMES + output;
            if (output == NONE || sort[at] != OUTPUT) {
                text.fail(11, text.start);
            }
            emit(PART, symbol, output);
            return width[at];
        }

        /**
         * Reads what stands behind a primary: whether another one must follow. Markers of what is
         * open lie below 0 among the operators, so working these out stops there.
         */
        private boolean readOperators() {
            boolean ended = false;
            for (int guard = 0; guard < Text.SIZE; guard++) {
                int level = ended ? 0 : levelOf(text.kind);
                if (level > 0) {
                    // A second == of one sum ends the expression, as any token that cannot go on.
                    applyFrom(level == SAME ? ADD : level);
                    if (level != SAME || topKind() != SAME) {
                        push(level);
                        text.advance();
                        return true;
                    }
                }
                applyFrom(OR);
                if (text.kind == '?' && library == null) {
                    openUp(QUESTION);
                    needCondition();
                    text.advance();
                    return true;
                }
                ended = true;
                int marker = topKind();
                if (marker == PAREN || marker == TURNED_PAREN) {
                    closeParen();
                    if (marker == TURNED_PAREN) {
                        turnHeld();
                    }
                    text.advance();
                    ended = false;
                } else if (marker == QUESTION) {
                    turnToColon();
                    text.advance();
                    return true;
                } else if (marker == COLON) {
                    finishChoice();
                } else {
                    return false;
                }
            }
            return false;
        }

        private int levelOf(int kind) {
            switch (kind) {
                case '|': return OR;
                case '^': return XOR;
                case '&': return AND;
                case Text.SAME: return library == null ? SAME : 0;
                case '+': return library == null ? ADD : 0;
                default: return 0;
            }
        }

        private int topKind() {
            return opTop > 0 ? opKind[opTop - 1] : 0;
        }

        private void applyFrom(int least) {
            for (int guard = 0; guard <= ADD && topKind() >= least && heldTop > 1; guard++) {
                opTop--;
                heldTop--;
                int op = opKind[opTop];
                int b = held[heldTop];
                int a = held[heldTop - 1];
                if (library != null) {
                    held[heldTop - 1] = op == OR ? a | b : op == XOR ? a ^ b : a & b;
                } else {
                    if (a != b) {
                        text.fail(13, opPlace[opTop]);
                    }
                    held[heldTop - 1] = op == SAME ? 1 : a;
                    emit(op, 0, 0);
                }
            }
        }

        private void needCondition() {
            if (held[heldTop - 1] != 1) {
                text.fail(13, text.start);
            }
        }

        private void turnToColon() {
            if (text.kind != ':') {
                text.fail(2, text.start);
            }
            opKind[opTop - 1] = COLON;
        }

        private void closeParen() {
            if (text.kind != ')') {
                text.fail(2, text.start);
            }
            opTop--;
            open--;
        }

        private void finishChoice() {
            opTop--;
            open--;
            heldTop -= 2;
            if (held[heldTop] != held[heldTop + 1]) {
                text.fail(13, opPlace[opTop]);
            }
            held[heldTop - 1] = held[heldTop];
            emit(CHOICE, 0, 0);
        }
    }

    // ======== graphs

    /** The graph of a machine, and all that its clocks do, by patterns: outputs, then the next state. */
    private static final class Design {
        static final int ANDS = 1000;
        static final int PATTERN_BITS = 12;
        static final int NODES = 1 + PATTERN_BITS + ANDS;
        static final int OUTPUTS = 16;
        static final int OUTPUT_BITS = (1 << OUTPUTS) - 1;
        static final int REGISTERS = 6;
        static final int PATTERNS = 1 << PATTERN_BITS;

        boolean used;
        int inputs;
        int registers;
        int outputs;
        int nodes;
        int beginning;
        int current;
        int depth;
        int sweptAnds;
        int reached;
        final int[] low = new int[NODES];
        final int[] high = new int[NODES];
        final int[] standsFor = new int[NODES];
        final int[] outRoot = new int[OUTPUTS];
        final int[] nextRoot = new int[REGISTERS];
        final int[] table = new int[PATTERNS];

        int firstAnd() {
            return 1 + inputs + registers;
        }

        int sweptLiteral(int literal) {
            return standsFor[literal >> 1] ^ literal & 1;
        }

        /** The literal of output k; behind the outputs stand the next values. */
        int rootAt(int k) {
            return k < outputs ? outRoot[k] : nextRoot[k - outputs];
        }

        int roots() {
            return outputs + registers;
        }

        /** Marks the nodes that the swept graph needs: how many ANDs are among them. */
        int markNeeded(int[] marks) {
            Arrays.fill(marks, 0);
            for (int k = 0; k < roots(); k++) {
                marks[sweptLiteral(rootAt(k)) >> 1] = 1;
            }
            int ands = 0;
            for (int n = nodes - 1; n >= firstAnd(); n--) {
                if (marks[n] != 0) {
                    ands++;
                    marks[sweptLiteral(low[n]) >> 1] = 1;
                    marks[sweptLiteral(high[n]) >> 1] = 1;
                }
            }
            return ands;
        }
    }

    /** Works out a design's code to its graph, then sweeps that. */
    private static final class Builder {
        private static final int INSTANCES = 200;
        private static final int WIDTH = Reader.MOST_WIDE;
        private static final int BUCKETS = 4096;
        private static final int WORDS = Design.PATTERNS / 64;
        private static final int COUNTLESS = 100000;
        /** The values of the six lowest bits of a pattern, over 64 patterns. */
        static final long[] BIT_ROWS = {
            0xAAAAAAAAAAAAAAAAL, 0xCCCCCCCCCCCCCCCCL, 0xF0F0F0F0F0F0F0F0L,
            0xFF00FF00FF00FF00L, 0xFFFF0000FFFF0000L, 0xFFFFFFFF00000000L};

        private final Reader reader;
        private Design design;
        private final int[] frames = new int[(INSTANCES + 1) * Reader.NAMES * WIDTH];
        private int frameCount;
        private final int[] stack = new int[512 * WIDTH];
        private final int[] wide = new int[512];
        private int top;
        private final int[] buckets = new int[BUCKETS];
        private boolean full;
        private int registersMade;
        private final int[] instances = new int[Reader.MODULES];
        private final int[] registerBits = new int[Reader.MODULES];
        private final long[] rows = new long[Design.NODES * WORDS];
        private int words;
        private final int[] scratch = new int[Design.NODES];

        Builder(Reader reader) {
            this.reader = reader;
        }

        void build(Design target) {
            design = target;
            int machine = reader.modules - 1;
            if (machine < 0) {
                return;
            }
            int place = reader.moduleName[machine] >> 4;
            int code = limitFault(machine);
            if (code != 0) {
                reader.text.fail(code, place);
            }
            startGraph(machine);
            execute(machine, 0, 0);
            if (full) {
                reader.text.fail(23, place);
            }
            takeOutputs(machine);
            measureDepth();
            sweep();
            fillTable();
            design.sweptAnds = design.markNeeded(scratch);
            design.reached = countReached();
            design.current = design.beginning;
            design.used = true;
        }

        private int limitFault(int machine) {
            for (int m = 0; m <= machine; m++) {
                int uses = 0;
                int bits = 0;
                for (int s = 0; s < reader.moduleNames[m]; s++) {
                    int at = m * Reader.NAMES + s;
                    if (reader.sort[at] == Reader.INSTANCE) {
                        uses += 1 + instances[reader.detail[at]];
                        bits += registerBits[reader.detail[at]];
                    } else if (reader.sort[at] == Reader.REGISTER || reader.sort[at] == Reader.DRIVEN) {
                        bits += reader.width[at];
                    }
                }
                instances[m] = Math.min(uses, COUNTLESS);
                registerBits[m] = Math.min(bits, COUNTLESS);
            }
            if (instances[machine] > INSTANCES) {
                return 20;
            }
            design.inputs = bitsOf(machine, Reader.INPUT);
            design.registers = registerBits[machine];
            design.outputs = bitsOf(machine, Reader.OUTPUT);
            if (design.registers > Design.REGISTERS
                    || design.inputs + design.registers > Design.PATTERN_BITS) {
                return 21;
            }
            return design.outputs < 1 || design.outputs > Design.OUTPUTS ? 22 : 0;
        }

        private int bitsOf(int module, int sort) {
            int bits = 0;
            for (int s = 0; s < reader.moduleNames[module]; s++) {
                if (reader.sort[module * Reader.NAMES + s] == sort) {
                    bits += reader.width[module * Reader.NAMES + s];
                }
            }
            return bits;
        }

        private void startGraph(int machine) {
            design.nodes = design.firstAnd();
            design.beginning = 0;
            Arrays.fill(design.low, 0);
            Arrays.fill(design.high, 0);
            Arrays.fill(buckets, 0);
            full = false;
            top = 0;
            registersMade = 0;
            frameCount = 1;
            int node = 1;
            for (int s = 0; s < reader.moduleNames[machine]; s++) {
                if (reader.sort[machine * Reader.NAMES + s] == Reader.INPUT) {
                    for (int k = 0; k < reader.width[machine * Reader.NAMES + s]; k++) {
                        frames[cellOf(0, s) + k] = 2 * node;
                        node++;
                    }
                }
            }
        }

        private static int cellOf(int frame, int symbol) {
            return (frame * Reader.NAMES + symbol) * WIDTH;
        }

        private void execute(int module, int frame, int depth) {
            int to = reader.moduleCode[module + 1];
            for (int pc = reader.moduleCode[module]; pc < to && !full; pc++) {
                int word = reader.code[pc];
                int what = word & 31;
                int a = word >> 5 & 63;
                int b = word >> 11;
                if (what == Reader.CALL) {
                    if (depth < Reader.MODULES) {
                        execute(b, frames[cellOf(frame, a)], depth + 1);
                    }
                } else if (what <= Reader.CHOICE) {
                    operate(what);
                } else if (what <= Reader.BIT) {
                    load(what, module, frame, a, b);
                } else {
                    store(what, module, frame, a, b);
                }
            }
        }

        private void load(int what, int module, int frame, int a, int b) {
            if (what == Reader.BIT) {
                stack[(top - 1) * WIDTH] = stack[(top - 1) * WIDTH + a];
                wide[top - 1] = 1;
                return;
            }
            int at = top * WIDTH;
            int symbol = module * Reader.NAMES + a;
            if (what == Reader.CONSTANT) {
                wide[top] = a;
                for (int k = 0; k < a; k++) {
                    stack[at + k] = b >> k & 1;
                }
            } else if (what == Reader.LOAD) {
                wide[top] = reader.width[symbol];
                System.arraycopy(frames, cellOf(frame, a), stack, at, WIDTH);
            } else {
                wide[top] = reader.width[reader.detail[symbol] * Reader.NAMES + b];
                System.arraycopy(frames, cellOf(frames[cellOf(frame, a)], b), stack, at, WIDTH);
            }
            top++;
        }

        private void store(int what, int module, int frame, int a, int b) {
            int symbol = module * Reader.NAMES + a;
            if (what == Reader.BEGIN_USE) {
                frames[cellOf(frame, a)] = frameCount;
                frameCount++;
                return;
            }
            if (what == Reader.HOLD) {
                for (int k = 0; k < reader.width[symbol]; k++) {
                    int literal = 2 * (1 + design.inputs + registersMade);
                    frames[cellOf(frame, a) + k] = literal;
                    design.nextRoot[registersMade] = literal;
                    design.beginning |= (reader.detail[symbol] >> k & 1) << registersMade;
                    registersMade++;
                }
                return;
            }
            top--;
            if (what == Reader.NEXT) {
                int first = (frames[cellOf(frame, a)] >> 1) - 1 - design.inputs;
                System.arraycopy(stack, top * WIDTH, design.nextRoot, first, wide[top]);
            } else {
                int to = what == Reader.STORE ? cellOf(frame, a) : cellOf(frames[cellOf(frame, a)], b);
                System.arraycopy(stack, top * WIDTH, frames, to, WIDTH);
            }
        }

        private void operate(int what) {
            if (what == Reader.NOT) {
                for (int k = 0; k < wide[top - 1]; k++) {
                    stack[(top - 1) * WIDTH + k] ^= 1;
                }
                return;
            }
            if (what == Reader.CHOICE) {
                choose();
                return;
            }
            top--;
            int b = top * WIDTH;
            int a = b - WIDTH;
            int bits = wide[top];
            if (what == Reader.ADD) {
                sum(a, b, bits);
            } else if (what == Reader.SAME) {
                wide[top - 1] = 1;
                int same = differ(stack[a], stack[b]) ^ 1;
                for (int k = 1; k < bits; k++) {
                    same = both(same, differ(stack[a + k], stack[b + k]) ^ 1);
                }
                stack[a] = same;
            } else {
                for (int k = 0; k < bits; k++) {
                    int x = stack[a + k];
                    int y = stack[b + k];
                    stack[a + k] = what == Reader.AND ? both(x, y)
                            : what == Reader.OR ? either(x, y) : differ(x, y);
                }
            }
        }

        private void choose() {
            top -= 2;
            int result = (top - 1) * WIDTH;
            int condition = stack[result];
            for (int k = 0; k < wide[top]; k++) {
                int yes = both(condition, stack[top * WIDTH + k]);
                int no = both(condition ^ 1, stack[(top + 1) * WIDTH + k]);
                stack[result + k] = either(yes, no);
            }
            wide[top - 1] = wide[top];
        }

        private void sum(int a, int b, int bits) {
            int carry = 0;
            for (int k = 0; k < bits; k++) {
                int x = stack[a + k];
                int y = stack[b + k];
                int half = differ(x, y);
                stack[a + k] = differ(half, carry);
                int made = both(x, y);
                carry = either(made, both(half, carry));
            }
        }

        private int either(int a, int b) {
            return both(a ^ 1, b ^ 1) ^ 1;
        }

        private int differ(int a, int b) {
            int left = both(a, b ^ 1);
            return both(left ^ 1, both(a ^ 1, b) ^ 1) ^ 1;
        }

        private int both(int one, int two) {
            int a = Math.min(one, two);
            int b = Math.max(one, two);
            if (a == 0 || a == (b ^ 1)) {
                return 0;
            }
            if (a == 1 || a == b) {
                return b;
            }
            int at = a * 2027 + b * 31 & BUCKETS - 1;
            for (int probe = 0; probe < BUCKETS && buckets[at] != 0; probe++) {
                int node = buckets[at];
                if (design.low[node] == a && design.high[node] == b) {
                    return 2 * node;
                }
                at = at + 1 & BUCKETS - 1;
            }
            if (design.nodes - design.firstAnd() >= Design.ANDS) {
                full = true;
                return 0;
            }
            int fresh = design.nodes;
            buckets[at] = fresh;
            design.low[fresh] = a;
            design.high[fresh] = b;
            design.nodes++;
            return 2 * fresh;
        }

        private void takeOutputs(int machine) {
            int made = 0;
            for (int s = 0; s < reader.moduleNames[machine]; s++) {
                if (reader.sort[machine * Reader.NAMES + s] == Reader.OUTPUT) {
                    int bits = reader.width[machine * Reader.NAMES + s];
                    System.arraycopy(frames, cellOf(0, s), design.outRoot, made, bits);
                    made += bits;
                }
            }
        }

        private void measureDepth() {
            Arrays.fill(scratch, 0);
            for (int n = design.firstAnd(); n < design.nodes; n++) {
                scratch[n] = 1 + Math.max(scratch[design.low[n] >> 1], scratch[design.high[n] >> 1]);
            }
            design.depth = 0;
            for (int k = 0; k < design.roots(); k++) {
                design.depth = Math.max(design.depth, scratch[design.rootAt(k) >> 1]);
            }
        }

        private void sweep() {
            int bits = design.inputs + design.registers;
            words = bits <= 6 ? 1 : 1 << bits - 6;
            long mask = bits >= 6 ? -1L : (1L << (1 << bits)) - 1;
            Arrays.fill(buckets, NONE);
            for (int n = 0; n < design.nodes; n++) {
                boolean and = n >= design.firstAnd();
                long hash = 0;
                for (int w = 0; w < words; w++) {
                    long row = and ? wordOf(design.low[n], w) & wordOf(design.high[n], w)
                            : n == 0 ? 0 : bitWord(n - 1, w);
                    rows[n * WORDS + w] = row & mask;
                    long turned = (rows[n * WORDS] & 1) == 0 ? row & mask : ~row & mask;
                    hash = hash * 31 + (turned ^ turned >>> 29);
                }
                design.standsFor[n] = findLike(n, hash, mask);
            }
        }

        private long wordOf(int literal, int w) {
            long row = rows[(literal >> 1) * WORDS + w];
            return (literal & 1) == 0 ? row : ~row;
        }

        static long bitWord(int bit, int w) {
            if (bit < 6) {
                return BIT_ROWS[bit];
            }
            return (w >> bit - 6 & 1) == 0 ? 0 : -1L;
        }

        private int findLike(int n, long hash, long mask) {
            int at = (int) (hash ^ hash >>> 32) & BUCKETS - 1;
            for (int probe = 0; probe < BUCKETS && buckets[at] != NONE; probe++) {
                int old = buckets[at];
                long turn = ((rows[n * WORDS] ^ rows[old * WORDS]) & 1) == 0 ? 0 : mask;
                boolean like = true;
                for (int w = 0; w < words && like; w++) {
                    like = rows[n * WORDS + w] == (rows[old * WORDS + w] ^ turn);
                }
                if (like) {
                    return 2 * old + (turn == 0 ? 0 : 1);
                }
                at = at + 1 & BUCKETS - 1;
            }
            buckets[at] = n;
            return 2 * n;
        }

        private void fillTable() {
            Arrays.fill(design.table, 0);
            int patterns = 1 << design.inputs + design.registers;
            for (int k = 0; k < design.roots(); k++) {
                int literal = design.rootAt(k);
                int shift = k < design.outputs ? k : Design.OUTPUTS + k - design.outputs;
                for (int p = 0; p < patterns; p++) {
                    design.table[p] |= (int) (wordOf(literal, p >> 6) >> (p & 63) & 1) << shift;
                }
            }
        }

        private int countReached() {
            Arrays.fill(scratch, 0);
            int states = 1 << design.registers;
            scratch[states] = design.beginning;
            scratch[design.beginning] = 1;
            int tail = 1;
            for (int head = 0; head < tail && head < states; head++) {
                int here = scratch[states + head] << design.inputs;
                for (int input = 0; input < 1 << design.inputs; input++) {
                    int next = design.table[here | input] >> Design.OUTPUTS;
                    if (scratch[next] == 0) {
                        scratch[next] = 1;
                        scratch[states + tail] = next;
                        tail++;
                    }
                }
            }
            return tail;
        }
    }

    // ======== libraries

    /** Cells by number; a chip has a copy of its own, which stays when the library goes. */
    private static final class Library {
        static final int CELLS = 12;

        boolean used;
        int count;
        int inverter;
        final int[] inputs = new int[CELLS];
        final int[] table = new int[CELLS];
        final int[] area = new int[CELLS];
        final int[] delay = new int[CELLS];

        void addCell(int itsInputs, int itsTable, int itsArea, int itsDelay) {
            if (count < CELLS) {
                inputs[count] = itsInputs;
                table[count] = itsTable;
                area[count] = itsArea;
                delay[count] = itsDelay;
                count++;
            }
        }

        void findInverter() {
            inverter = NONE;
            for (int k = 0; k < count; k++) {
                boolean turns = inputs[k] == 1 && table[k] == 1;
                if (turns && (inverter == NONE || area[k] < area[inverter])) {
                    inverter = k;
                }
            }
        }

        void copyOf(Library other) {
            count = other.count;
            inverter = other.inverter;
            System.arraycopy(other.inputs, 0, inputs, 0, CELLS);
            System.arraycopy(other.table, 0, table, 0, CELLS);
            System.arraycopy(other.area, 0, area, 0, CELLS);
            System.arraycopy(other.delay, 0, delay, 0, CELLS);
        }
    }

    // ======== chips made

    /** Covers the trees of a swept graph with cells, at the least cost, and makes the gates of that. */
    private static final class Mapper {
        private static final int CUTS = 1024;
        private static final int TOO_MUCH = 1 << 28;
        private static final int INVERTED = -2;
        private static final int[] VALUE_TABLES = {0xAA, 0xCC, 0xF0};
        /** Two orders of two nodes, then six of three. */
        private static final int[] ORDERS = {
            0, 1, 2, 1, 0, 2,
            0, 1, 2, 0, 2, 1, 1, 0, 2, 1, 2, 0, 2, 0, 1, 2, 1, 0};

        private Design design;
        private Library cells;
        private final int[] needed = new int[Design.NODES];
        private final int[] root = new int[Design.NODES];
        private final int[] need = new int[2 * Design.NODES];
        private final int[] wayCell = new int[2 * Design.NODES];
        private final int[] wayTurns = new int[2 * Design.NODES];
        private final int[] wayNodes = new int[6 * Design.NODES];
        private final int[] cuts = new int[3 * CUTS];
        private final int[] cutOrder = new int[CUTS];
        private final int[] cutTable = new int[CUTS];
        private int cutCount;
        private final int[] members = new int[4];
        private int memberCount;
        private final int[] views = new int[Library.CELLS * 48];
        private final int[] inner = new int[Design.NODES];
        private final int[] values = new int[Design.NODES];
        private final int[] made = new int[3 * Design.NODES];
        private final int[] tasks = new int[3 * Design.NODES];

        /** Makes a chip: 0, or NONE or -2 as the document tells. */
        int build(Design from, Library library, Chip chip) {
            design = from;
            cells = library;
            design.markNeeded(needed);
            findRoots();
            viewCells();
            for (int n = design.firstAnd(); n < design.nodes; n++) {
                if (needed[n] != 0) {
                    findWays(n);
                    if (root[n] != 0 && need[2 * n] >= TOO_MUCH) {
                        return NONE;
                    }
                }
            }
            if (cells.inverter == NONE && wantsInverter()) {
                return NONE;
            }
            chip.start(design, cells);
            if (!makeGates(chip)) {
                return -2;
            }
            chip.board.start(chip);
            return 0;
        }

        private int lowNode(int n) {
            return design.sweptLiteral(design.low[n]) >> 1;
        }

        private int highNode(int n) {
            return design.sweptLiteral(design.high[n]) >> 1;
        }

        private boolean isLeaf(int n) {
            return n < design.firstAnd() || root[n] != 0;
        }

        /** Uses are counted in root first; an output or next value counts for two. */
        private void findRoots() {
            Arrays.fill(root, 0);
            for (int k = 0; k < design.roots(); k++) {
                root[design.sweptLiteral(design.rootAt(k)) >> 1] += 2;
            }
            for (int n = design.firstAnd(); n < design.nodes; n++) {
                if (needed[n] != 0) {
                    root[lowNode(n)]++;
                    root[highNode(n)]++;
                }
            }
            for (int n = 0; n < design.nodes; n++) {
                root[n] = root[n] > 1 ? 1 : 0;
            }
        }

        private boolean wantsInverter() {
            for (int k = 0; k < design.roots(); k++) {
                int literal = design.sweptLiteral(design.rootAt(k));
                if (literal > 1 && (literal & 1) != 0) {
                    return true;
                }
            }
            return false;
        }

        /** What each cell tells of a cut's values, by order and turns: looked up for every cut. */
        private void viewCells() {
            for (int cell = 0; cell < cells.count; cell++) {
                int inputs = cells.inputs[cell];
                int orders = inputs == 2 ? 2 : 6;
                for (int view = 0; inputs > 1 && view < orders << inputs; view++) {
                    int order = view >> inputs;
                    int turns = view & (1 << inputs) - 1;
                    int table = 0;
                    for (int s = 0; s < 1 << inputs; s++) {
                        int state = turns;
                        for (int k = 0; k < inputs; k++) {
                            state ^= (s >> placeOf(inputs, order, k) & 1) << k;
                        }
                        table |= (cells.table[cell] >> state & 1) << s;
                    }
                    views[cell * 48 + view] = table;
                }
            }
        }

        private static int placeOf(int inputs, int order, int k) {
            return ORDERS[3 * (inputs == 2 ? order : 2 + order) + k];
        }

        private void findWays(int n) {
            need[2 * n] = TOO_MUCH;
            need[2 * n + 1] = TOO_MUCH;
            wayCell[2 * n] = NONE;
            wayCell[2 * n + 1] = NONE;
            collectCuts(n);
            sortCuts();
            for (int i = 0; i < cutCount; i++) {
                cutTable[i] = tableOver(n, i);
            }
            for (int cell = 0; cell < cells.count; cell++) {
                for (int i = 0; i < cutCount; i++) {
                    int cut = cutOrder[i];
                    if (cells.inputs[cell] == (cuts[3 * cut + 2] == NONE ? 2 : 3)) {
                        tryCut(n, cell, cut);
                    }
                }
            }
            if (cells.inverter != NONE) {
                int area = cells.area[cells.inverter];
                int plain = need[2 * n];
                int turned = need[2 * n + 1];
                if (turned + area < plain) {
                    need[2 * n] = turned + area;
                    wayCell[2 * n] = INVERTED;
                } else if (plain + area < turned) {
                    need[2 * n + 1] = plain + area;
                    wayCell[2 * n + 1] = INVERTED;
                }
            }
        }

        private void collectCuts(int n) {
            cutCount = 0;
            memberCount = 0;
            addMember(lowNode(n));
            addMember(highNode(n));
            addCut();
            for (int i = 0; i < cutCount && i < CUTS; i++) {
                for (int k = 0; k < 3; k++) {
                    int node = cuts[3 * i + k];
                    if (node != NONE && !isLeaf(node)) {
                        memberCount = 0;
                        addMember(lowNode(node));
                        addMember(highNode(node));
                        addMember(cuts[3 * i + (k + 1) % 3]);
                        addMember(cuts[3 * i + (k + 2) % 3]);
                        addCut();
                    }
                }
            }
        }

        private void addMember(int node) {
            if (node == NONE) {
                return;
            }
            int at = memberCount;
            for (int k = 0; k < memberCount; k++) {
                if (members[k] == node) {
                    return;
                }
            }
            while (at > 0 && members[at - 1] > node) {
                members[at] = members[at - 1];
                at--;
            }
            members[at] = node;
            memberCount++;
        }

        private void addCut() {
            if (memberCount > 3 || cutCount == CUTS) {
                return;
            }
            int third = memberCount == 3 ? members[2] : NONE;
            for (int i = 0; i < cutCount; i++) {
                if (cuts[3 * i] == members[0] && cuts[3 * i + 1] == members[1] && cuts[3 * i + 2] == third) {
                    return;
                }
            }
            cuts[3 * cutCount] = members[0];
            cuts[3 * cutCount + 1] = members[1];
            cuts[3 * cutCount + 2] = third;
            cutCount++;
        }

        private void sortCuts() {
            for (int i = 0; i < cutCount; i++) {
                int at = i;
                while (at > 0 && isBefore(i, cutOrder[at - 1])) {
                    cutOrder[at] = cutOrder[at - 1];
                    at--;
                }
                cutOrder[at] = i;
            }
        }

        private boolean isBefore(int one, int two) {
            for (int k = 0; k < 3; k++) {
                if (cuts[3 * one + k] != cuts[3 * two + k]) {
                    return cuts[3 * one + k] < cuts[3 * two + k];
                }
            }
            return false;
        }

        /** The values of n over those of a cut: parents stand before their parts in the inner row. */
        private int tableOver(int n, int cut) {
            inner[0] = n;
            int count = 1;
            for (int i = 0; i < count && i < inner.length; i++) {
                int low = lowNode(inner[i]);
                int high = highNode(inner[i]);
                if (placeIn(cut, low) == NONE && count < inner.length) {
                    inner[count] = low;
                    count++;
                }
                if (placeIn(cut, high) == NONE && count < inner.length) {
                    inner[count] = high;
                    count++;
                }
            }
            for (int k = 0; k < 3; k++) {
                if (cuts[3 * cut + k] != NONE) {
                    values[cuts[3 * cut + k]] = VALUE_TABLES[k];
                }
            }
            for (int i = count - 1; i >= 0; i--) {
                int low = design.sweptLiteral(design.low[inner[i]]);
                int high = design.sweptLiteral(design.high[inner[i]]);
                values[inner[i]] = (values[low >> 1] ^ -(low & 1)) & (values[high >> 1] ^ -(high & 1));
            }
            return values[n] & (cuts[3 * cut + 2] == NONE ? 0xF : 0xFF);
        }

        private int placeIn(int cut, int node) {
            for (int k = 0; k < 3; k++) {
                if (cuts[3 * cut + k] == node) {
                    return k;
                }
            }
            return NONE;
        }

        private void tryCut(int n, int cell, int cut) {
            int inputs = cells.inputs[cell];
            int mask = inputs == 2 ? 0xF : 0xFF;
            int count = (inputs == 2 ? 2 : 6) << inputs;
            for (int view = 0; view < count; view++) {
                int table = views[cell * 48 + view];
                if (table == cutTable[cut]) {
                    offer(2 * n, cell, cut, view);
                }
                if (table == (cutTable[cut] ^ mask)) {
                    offer(2 * n + 1, cell, cut, view);
                }
            }
        }

        private void offer(int literal, int cell, int cut, int view) {
            int inputs = cells.inputs[cell];
            int cost = cells.area[cell];
            for (int k = 0; k < inputs; k++) {
                int node = cuts[3 * cut + placeOf(inputs, view >> inputs, k)];
                int turn = view >> k & 1;
                if (!isLeaf(node)) {
                    cost += need[2 * node + turn];
                } else if (turn != 0) {
                    cost += cells.inverter == NONE ? TOO_MUCH : cells.area[cells.inverter];
                }
                cost = Math.min(cost, TOO_MUCH);
            }
            if (cost < need[literal]) {
                need[literal] = cost;
                wayCell[literal] = cell;
                wayTurns[literal] = view & (1 << inputs) - 1;
                for (int k = 0; k < inputs; k++) {
                    wayNodes[3 * literal + k] = cuts[3 * cut + placeOf(inputs, view >> inputs, k)];
                }
            }
        }

        /**
         * Nets to be made are tasks: of node n, 3 n and t is its gate as it is or turned, 3 n + 2
         * the inverter behind its net. Tasks wait on a row of their own, as trees may be deep.
         */
        private boolean makeGates(Chip chip) {
            Arrays.fill(made, NONE);
            for (int n = 1; n < design.firstAnd(); n++) {
                made[3 * n] = n - 1;
            }
            for (int k = 0; k < design.roots(); k++) {
                int literal = design.sweptLiteral(design.rootAt(k));
                int net = -1 - literal;
                if (literal > 1) {
                    int task = 3 * (literal >> 1) + 2 * (literal & 1);
                    if (!makeTask(task, chip)) {
                        return false;
                    }
                    net = made[task];
                }
                if (k < design.outputs) {
                    chip.outNet[k] = net;
                } else {
                    chip.nextNet[k - design.outputs] = net;
                }
            }
            return true;
        }

        private boolean makeTask(int wanted, Chip chip) {
            tasks[0] = wanted;
            int top = 1;
            for (int guard = 0; guard < 1000000 && top > 0; guard++) {
                int task = tasks[top - 1];
                int missing = made[task] != NONE ? NONE : missingPart(task);
                if (made[task] != NONE) {
                    top--;
                } else if (missing != NONE) {
                    tasks[top] = missing;
                    top++;
                } else if (chip.gates == Chip.GATES) {
                    return false;
                } else {
                    made[task] = finishTask(task, chip);
                    top--;
                }
            }
            return true;
        }

        private int partsOf(int task) {
            int cell = task % 3 == 2 ? INVERTED : wayCell[2 * (task / 3) + task % 3];
            return cell < 0 ? 1 : cells.inputs[cell];
        }

        private int partAt(int task, int k) {
            int node = task / 3;
            int turn = task % 3;
            if (turn == 2) {
                return 3 * node;
            }
            int literal = 2 * node + turn;
            if (wayCell[literal] < 0) {
                return 3 * node + 1 - turn;
            }
            int part = wayNodes[3 * literal + k];
            int partTurn = wayTurns[literal] >> k & 1;
            return 3 * part + (isLeaf(part) ? 2 * partTurn : partTurn);
        }

        private int missingPart(int task) {
            for (int k = 0; k < partsOf(task); k++) {
                int part = partAt(task, k);
                if (made[part] == NONE) {
                    return part;
                }
            }
            return NONE;
        }

        private int finishTask(int task, Chip chip) {
            int gate = chip.gates;
            int cell = task % 3 == 2 ? INVERTED : wayCell[2 * (task / 3) + task % 3];
            chip.gateCell[gate] = cell < 0 ? cells.inverter : cell;
            for (int k = 0; k < partsOf(task); k++) {
                chip.gateNet[3 * gate + k] = made[partAt(task, k)];
            }
            chip.gates++;
            return chip.firstGateNet() + gate;
        }
    }

    /** A chip: its gates and nets, the state it is in, its false pairs, and the set of its tests. */
    private static final class Chip {
        static final int GATES = 150;
        static final int NETS = Design.PATTERN_BITS + GATES;
        static final int FAULTS = 2 * NETS + 6 * GATES;

        boolean used;
        int inputs;
        int registers;
        int outputs;
        int beginning;
        int current;
        final int[] table = new int[Design.PATTERNS];
        final Library cells = new Library();
        int gates;
        final int[] gateCell = new int[GATES];
        final int[] gateNet = new int[3 * GATES];
        final int[] outNet = new int[Design.OUTPUTS];
        final int[] nextNet = new int[Design.REGISTERS];
        final int[] falseEnds = new int[Design.PATTERN_BITS];
        int falsePairs;
        int setSize;
        final int[] setPattern = new int[FAULTS];
        final int[] setFails = new int[FAULTS];
        final Board board = new Board();
        int logicStamp;

        void start(Design design, Library library) {
            inputs = design.inputs;
            registers = design.registers;
            outputs = design.outputs;
            beginning = design.beginning;
            current = design.beginning;
            cells.copyOf(library);
            gates = 0;
            Arrays.fill(falseEnds, 0);
            falsePairs = 0;
            setSize = NONE;
            logicStamp++;
        }

        int firstGateNet() {
            return inputs + registers;
        }

        int nets() {
            return inputs + registers + gates;
        }

        int elements() {
            return registers + gates;
        }

        int ends() {
            return outputs + registers;
        }

        int endNet(int end) {
            return end < outputs ? outNet[end] : nextNet[end - outputs];
        }

        int gateInputs(int gate) {
            return cells.inputs[gateCell[gate]];
        }

        int gateArea() {
            int area = 0;
            for (int g = 0; g < gates; g++) {
                area += cells.area[gateCell[g]];
            }
            return area;
        }

        boolean isPattern(int pattern) {
            return pattern >= 0 && pattern < 1 << inputs + registers;
        }

        int faultCount() {
            int pins = 0;
            for (int g = 0; g < gates; g++) {
                pins += gateInputs(g);
            }
            return 2 * nets() + 2 * pins;
        }
    }

    // ======== places

    /**
     * Places and wires of a chip. Pin k of element e has the number 4 e + k; behind these stand
     * the pins of the inputs, then those of the outputs.
     */
    private static final class Board {
        static final int LEAST_SITES = 4;
        static final int MOST_SITES = 60;
        static final int ROWS = 12;
        static final int ELEMENTS = Design.REGISTERS + Chip.GATES;
        static final int INPUT_PINS = 4 * ELEMENTS;
        static final int OUTPUT_PINS = INPUT_PINS + Design.PATTERN_BITS;
        static final int PINS = OUTPUT_PINS + Design.OUTPUTS;
        static final int POINTS = 2 * (3 * ROWS + 2) * (MOST_SITES + 2);
        static final int ALONG_X = 1;
        static final int ALONG_Y = 2;
        static final int VIA = 4;

        int sites;
        int rows;
        int height;
        final int[] siteOf = new int[ELEMENTS];
        final int[] rowOf = new int[ELEMENTS];
        final int[] sizeOf = new int[ELEMENTS];
        final int[] pinNet = new int[PINS];
        final int[] pinsByNet = new int[PINS];
        final int[] firstPin = new int[Chip.NETS];
        final int[] netPins = new int[Chip.NETS];
        final int[] netWire = new int[Chip.NETS];
        boolean routed;
        final int[] owner = new int[POINTS];
        final int[] steps = new int[POINTS];
        final int[] open = new int[Chip.NETS];
        final Layout layout = new Layout();
        int timeStamp;
        private final int[] touchedNets = new int[8];
        private int touchedCount;

        void start(Chip c) {
            rows = 0;
            loseWires();
            timeStamp++;
            Arrays.fill(pinNet, NONE);
            Arrays.fill(netPins, 0);
            Arrays.fill(netWire, 0);
            for (int r = 0; r < c.registers; r++) {
                sizeOf[r] = 2;
                setPin(4 * r, c.nextNet[r]);
                setPin(4 * r + 1, c.inputs + r);
            }
            for (int g = 0; g < c.gates; g++) {
                int element = c.registers + g;
                int inputs = c.gateInputs(g);
                sizeOf[element] = inputs + 1;
                for (int k = 0; k < inputs; k++) {
                    setPin(4 * element + k, c.gateNet[3 * g + k]);
                }
                setPin(4 * element + inputs, c.firstGateNet() + g);
            }
            for (int k = 0; k < c.inputs; k++) {
                setPin(INPUT_PINS + k, k);
            }
            for (int k = 0; k < c.outputs; k++) {
                setPin(OUTPUT_PINS + k, c.outNet[k]);
            }
            listPins();
        }

        private void setPin(int pin, int net) {
            if (net >= 0) {
                pinNet[pin] = net;
                netPins[net]++;
            }
        }

        private void listPins() {
            int behind = 0;
            for (int net = 0; net < Chip.NETS; net++) {
                firstPin[net] = behind;
                behind += netPins[net];
                netPins[net] = 0;
            }
            for (int pin = 0; pin < PINS; pin++) {
                int net = pinNet[pin];
                if (net != NONE) {
                    pinsByNet[firstPin[net] + netPins[net]] = pin;
                    netPins[net]++;
                }
            }
        }

        /** Pin k of a net, by the order of all pins. */
        int pinAt(int net, int k) {
            return pinsByNet[firstPin[net] + k];
        }

        private void loseWires() {
            routed = false;
            layout.drawn = false;
        }

        int points() {
            return 2 * height * (sites + 2);
        }

        int pinX(int pin) {
            if (pin < INPUT_PINS) {
                return 1 + siteOf[pin >> 2] + (pin & 3);
            }
            return pin < OUTPUT_PINS ? 0 : sites + 1;
        }

        int pinY(int pin) {
            if (pin < INPUT_PINS) {
                return 3 * rowOf[pin >> 2] + 1;
            }
            return pin < OUTPUT_PINS ? pin - INPUT_PINS : pin - OUTPUT_PINS;
        }

        int pinPoint(int pin) {
            return pinY(pin) * (sites + 2) + pinX(pin);
        }

        int placeAll(Chip c, int width) {
            int needed = layOut(c, width, false);
            if (needed > ROWS) {
                return NONE;
            }
            layOut(c, width, true);
            sites = width;
            rows = needed;
            height = Math.max(3 * rows + 2, Math.max(c.inputs, c.outputs));
            measureAll(c);
            return rows;
        }

        /** How many rows the elements need; where they come to be is kept only if that may be. */
        private int layOut(Chip c, int width, boolean keep) {
            int row = 0;
            int site = 0;
            for (int e = 0; e < c.elements(); e++) {
                if (site + sizeOf[e] > width) {
                    row++;
                    site = 0;
                }
                if (keep) {
                    siteOf[e] = site;
                    rowOf[e] = row;
                }
                site += sizeOf[e];
            }
            return row + 1;
        }

        private void measureAll(Chip c) {
            for (int net = 0; net < c.nets(); net++) {
                netWire[net] = wireOf(net);
            }
            loseWires();
            timeStamp++;
        }

        private int wireOf(int net) {
            if (netPins[net] < 2) {
                return 0;
            }
            int west = POINTS;
            int east = 0;
            int north = POINTS;
            int south = 0;
            for (int k = 0; k < netPins[net]; k++) {
                int x = pinX(pinAt(net, k));
                int y = pinY(pinAt(net, k));
                west = Math.min(west, x);
                east = Math.max(east, x);
                north = Math.min(north, y);
                south = Math.max(south, y);
            }
            return east - west + south - north;
        }

        int wholeWire(int nets) {
            int all = 0;
            for (int net = 0; net < nets; net++) {
                all += netWire[net];
            }
            return all;
        }

        boolean moveOne(Chip c, int element, int site, int row) {
            int size = sizeOf[element];
            if (row < 0 || row >= rows || site < 0 || site > sites - size) {
                return false;
            }
            for (int e = 0; e < c.elements(); e++) {
                boolean clear = e == element || rowOf[e] != row
                        || siteOf[e] + sizeOf[e] <= site || site + size <= siteOf[e];
                if (!clear) {
                    return false;
                }
            }
            siteOf[element] = site;
            rowOf[element] = row;
            measureAll(c);
            return true;
        }

        void exchangeAll(Chip c, int passes) {
            boolean changed = true;
            boolean ever = false;
            for (int pass = 0; pass < passes && changed; pass++) {
                changed = false;
                for (int i = 0; i < c.elements(); i++) {
                    for (int j = i + 1; j < c.elements(); j++) {
                        if (sizeOf[i] == sizeOf[j] && exchangeIfLess(i, j)) {
                            changed = true;
                            ever = true;
                        }
                    }
                }
            }
            if (ever) {
                loseWires();
                timeStamp++;
            }
        }

        private boolean exchangeIfLess(int i, int j) {
            touchedCount = 0;
            touchNets(i);
            touchNets(j);
            int before = 0;
            for (int k = 0; k < touchedCount; k++) {
                before += netWire[touchedNets[k]];
            }
            exchange(i, j);
            int after = 0;
            for (int k = 0; k < touchedCount && after < before; k++) {
                after += wireOf(touchedNets[k]);
            }
            if (after >= before) {
                exchange(i, j);
                return false;
            }
            for (int k = 0; k < touchedCount; k++) {
                netWire[touchedNets[k]] = wireOf(touchedNets[k]);
            }
            return true;
        }

        private void touchNets(int element) {
            for (int k = 0; k < sizeOf[element]; k++) {
                int net = pinNet[4 * element + k];
                boolean fresh = net != NONE;
                for (int i = 0; i < touchedCount; i++) {
                    fresh = fresh && touchedNets[i] != net;
                }
                if (fresh) {
                    touchedNets[touchedCount] = net;
                    touchedCount++;
                }
            }
        }

        private void exchange(int i, int j) {
            int site = siteOf[i];
            siteOf[i] = siteOf[j];
            siteOf[j] = site;
            int row = rowOf[i];
            rowOf[i] = rowOf[j];
            rowOf[j] = row;
        }

        /** Of a net's wire: 0 its points, 1 its steps, 2 its vias. */
        int countWire(int net, int what) {
            int count = 0;
            for (int p = 0; p < points(); p++) {
                if (owner[p] == net) {
                    count += what == 0 ? 1 : Integer.bitCount(what == 1 ? steps[p] : steps[p] & VIA);
                }
            }
            return count;
        }
    }

    // ======== wires

    /** Finds wires for a board's nets. */
    private static final class Router {
        private static final int ROB_PRICE = 11;

        private Board board;
        private int width;
        private int layerSize;
        private final int[] kept = new int[Board.POINTS];
        private final int[] distance = new int[Board.POINTS];
        private final int[] near = new int[Board.POINTS];
        private int nearTail;
        private final int[] far = new int[Board.POINTS];
        private int farTail;
        private final int[] way = new int[Board.POINTS];
        private final int[] tree = new int[Board.POINTS];
        private int treeSize;
        private final int[] row = new int[Chip.NETS];
        private int rowSize;

        /** Routes all nets: how many are open in the end. */
        int routeAll(Board target, int nets, int rounds) {
            board = target;
            width = board.sites + 2;
            layerSize = board.height * width;
            Arrays.fill(board.owner, NONE);
            Arrays.fill(board.steps, 0);
            Arrays.fill(board.open, 0);
            keepPins(nets);
            sortNets(nets);
            for (int i = 0; i < rowSize; i++) {
                connect(row[i], false);
            }
            int open = firstOpen();
            for (int round = 0; round < rounds && open != NONE; round++) {
                if (!connect(open, true)) {
                    break;
                }
                for (int i = 0; i < rowSize; i++) {
                    if (board.open[row[i]] != 0) {
                        connect(row[i], false);
                    }
                }
                open = firstOpen();
            }
            board.routed = true;
            int count = 0;
            for (int net = 0; net < nets; net++) {
                count += board.open[net];
            }
            return count;
        }

        private void keepPins(int nets) {
            Arrays.fill(kept, NONE);
            for (int net = 0; net < nets; net++) {
                for (int k = 0; k < board.netPins[net]; k++) {
                    kept[board.pinPoint(board.pinAt(net, k))] = net;
                }
            }
        }

        private void sortNets(int nets) {
            rowSize = 0;
            for (int net = 0; net < nets; net++) {
                if (board.netPins[net] > 1) {
                    int at = rowSize;
                    while (at > 0 && board.netWire[row[at - 1]] > board.netWire[net]) {
                        row[at] = row[at - 1];
                        at--;
                    }
                    row[at] = net;
                    rowSize++;
                }
            }
        }

        private int firstOpen() {
            for (int i = 0; i < rowSize; i++) {
                if (board.open[row[i]] != 0) {
                    return row[i];
                }
            }
            return NONE;
        }

        private boolean connect(int net, boolean robbing) {
            int first = nearestPin(net, NONE);
            board.open[net] = 0;
            board.owner[first] = net;
            tree[0] = first;
            treeSize = 1;
            for (int k = 1; k < board.netPins[net] && nearestPin(net, NONE) != NONE; k++) {
                int pin = spread(net, robbing);
                if (pin == NONE) {
                    lose(net);
                    return false;
                }
                walkBack(pin, net);
            }
            return true;
        }

        /** The pin with the least number, at that distance, that is not in the tree (NONE: at any). */
        private int nearestPin(int net, int at) {
            int least = NONE;
            for (int k = 0; k < board.netPins[net]; k++) {
                int p = board.pinPoint(board.pinAt(net, k));
                boolean wanted = board.owner[p] != net && (at == NONE || distance[p] == at);
                if (wanted && (least == NONE || p < least)) {
                    least = p;
                }
            }
            return least;
        }

        private void lose(int net) {
            board.open[net] = 1;
            for (int p = 0; p < 2 * layerSize; p++) {
                if (board.owner[p] == net) {
                    board.owner[p] = NONE;
                    board.steps[p] = 0;
                }
            }
        }

        private int priceOf(int p, int net) {
            return board.owner[p] == NONE || board.owner[p] == net ? 1 : ROB_PRICE;
        }

        /**
         * Distances from the tree, up to the nearest pin. What it costs to step to a point depends
         * on that point alone, so two queues, one a price, keep all points in order.
         */
        private int spread(int net, boolean robbing) {
            Arrays.fill(distance, 0, 2 * layerSize, NONE);
            System.arraycopy(tree, 0, near, 0, treeSize);
            for (int i = 0; i < treeSize; i++) {
                distance[tree[i]] = 0;
            }
            nearTail = treeSize;
            farTail = 0;
            int nearHead = 0;
            int farHead = 0;
            for (int guard = 0; guard < 2 * layerSize; guard++) {
                boolean fromNear = nearHead < nearTail
                        && (farHead == farTail || distance[near[nearHead]] <= distance[far[farHead]]);
                if (!fromNear && farHead == farTail) {
                    return NONE;
                }
                int p = fromNear ? near[nearHead] : far[farHead];
                if (fromNear) {
                    nearHead++;
                } else {
                    farHead++;
                }
                if (kept[p] == net && board.owner[p] != net) {
                    return nearestPin(net, distance[p]);
                }
                spreadFrom(p, net, robbing);
            }
            return NONE;
        }

        private void spreadFrom(int p, int net, boolean robbing) {
            int behind = distance[p];
            if (p < layerSize) {
                int x = width > 0 ? p % width : 0;
                if (x > 0) {
                    reach(p - 1, behind, net, robbing);
                }
                if (x < width - 1) {
                    reach(p + 1, behind, net, robbing);
                }
                reach(p + layerSize, behind, net, robbing);
            } else {
                int flat = p - layerSize;
                if (flat >= width) {
                    reach(p - width, behind, net, robbing);
                }
                if (flat < layerSize - width) {
                    reach(p + width, behind, net, robbing);
                }
                reach(flat, behind, net, robbing);
            }
        }

        private void reach(int q, int behind, int net, boolean robbing) {
            if (distance[q] != NONE || kept[q] != NONE && kept[q] != net) {
                return;
            }
            if (board.owner[q] == NONE) {
                distance[q] = behind + 1;
                near[nearTail] = q;
                nearTail++;
            } else if (robbing) {
                distance[q] = behind + ROB_PRICE;
                far[farTail] = q;
                farTail++;
            }
        }

        /** The next point at X - 1, X + 1, Y - 1, Y + 1, or on the other layer; NONE if there is none. */
        private int neighbour(int p, int side) {
            boolean upper = p >= layerSize;
            int flat = upper ? p - layerSize : p;
            int x = width > 0 ? flat % width : 0;
            switch (side) {
                case 0: return !upper && x > 0 ? p - 1 : NONE;
                case 1: return !upper && x < width - 1 ? p + 1 : NONE;
                case 2: return upper && flat >= width ? p - width : NONE;
                case 3: return upper && flat < layerSize - width ? p + width : NONE;
                default: return upper ? flat : p + layerSize;
            }
        }

        /** Robbed nets go only when the whole way is known: their prices hold until its end. */
        private void walkBack(int pin, int net) {
            way[0] = pin;
            int count = 1;
            for (int guard = 0; guard < 2 * layerSize && distance[way[count - 1]] > 0; guard++) {
                int p = way[count - 1];
                int q = before(p, distance[p] - priceOf(p, net));
                if (q == NONE || count == way.length) {
                    break;
                }
                way[count] = q;
                count++;
            }
            for (int i = 0; i < count; i++) {
                int other = board.owner[way[i]];
                if (other != NONE && other != net) {
                    lose(other);
                }
            }
            for (int i = 0; i < count - 1; i++) {
                board.owner[way[i]] = net;
                tree[treeSize] = way[i];
                treeSize++;
                joinPoints(way[i], way[i + 1]);
            }
        }

        private int before(int p, int wanted) {
            for (int side = 0; side < 5; side++) {
                int q = neighbour(p, side);
                if (q != NONE && distance[q] == wanted) {
                    return q;
                }
            }
            return NONE;
        }

        private void joinPoints(int p, int q) {
            int lower = Math.min(p, q);
            int apart = Math.max(p, q) - lower;
            int step = apart == layerSize ? Board.VIA : apart == 1 ? Board.ALONG_X : Board.ALONG_Y;
            board.steps[lower] |= step;
        }
    }

    // ======== layout

    /** The boxes of a chip, and what is found in them; that is kept until a box changes. */
    private static final class Layout {
        static final int BOXES = 2000;
        static final int STRIDE = 5;
        private static final int LEAST = 2;
        private static final int SHORT_WORDS = 3;

        boolean drawn;
        int count;
        final int[] boxes = new int[STRIDE * BOXES];
        int violations;
        int shorts;
        int opens;
        int pinnedParts;
        int looseParts;
        private int thin;
        private boolean judged;
        private boolean searched;
        private boolean writing;
        private final int[] nextBox = new int[Chip.NETS];
        private final int[] nearOnes = new int[BOXES];
        private final int[] parent = new int[BOXES];
        private final int[] pinPart = new int[Board.PINS];
        private final int[] partPins = new int[BOXES];
        private final long[] shorted = new long[Chip.NETS * SHORT_WORDS];

        void forget() {
            judged = false;
            searched = false;
        }

        void setBox(int box, int layer, int x0, int y0, int x1, int y1) {
            int at = STRIDE * box;
            boxes[at] = layer;
            boxes[at + 1] = x0;
            boxes[at + 2] = y0;
            boxes[at + 3] = x1;
            boxes[at + 4] = y1;
        }

        void removeBox(int box) {
            int behind = count - 1 - box;
            System.arraycopy(boxes, STRIDE * (box + 1), boxes, STRIDE * box, STRIDE * behind);
            count--;
            forget();
        }

        int countBoxes(Board board, int nets) {
            writing = false;
            Arrays.fill(nextBox, 0);
            scanBoard(board);
            int all = 0;
            for (int net = 0; net < nets; net++) {
                all += nextBox[net];
            }
            return all;
        }

        /** Comes behind countBoxes, whose counts tell where each net's boxes begin. */
        void drawBoxes(Board board, int nets) {
            int all = 0;
            for (int net = 0; net < nets; net++) {
                int own = nextBox[net];
                nextBox[net] = all;
                all += own;
            }
            writing = true;
            scanBoard(board);
            count = all;
            drawn = true;
            forget();
        }

        private void scanBoard(Board board) {
            int width = board.sites + 2;
            for (int y = 0; y < board.height; y++) {
                for (int x = 0; x < width; x++) {
                    scanRow(board, 0, x, y);
                }
            }
            for (int x = 0; x < width; x++) {
                for (int y = 0; y < board.height; y++) {
                    scanRow(board, 1, x, y);
                }
            }
            for (int y = 0; y < board.height; y++) {
                for (int x = 0; x < width; x++) {
                    int p = y * width + x;
                    if ((board.steps[p] & Board.VIA) != 0) {
                        takeBox(board.owner[p], 2, x, y, x, y);
                    }
                }
            }
        }

        /** Takes the box of the row of points that begins at a point, if one does. */
        private void scanRow(Board board, int layer, int x, int y) {
            int width = board.sites + 2;
            int p = (layer * board.height + y) * width + x;
            if (board.owner[p] == NONE) {
                return;
            }
            int apart = layer == 0 ? 1 : width;
            int step = layer == 0 ? Board.ALONG_X : Board.ALONG_Y;
            boolean goesOn = (layer == 0 ? x : y) > 0 && (board.steps[p - apart] & step) != 0;
            if (goesOn) {
                return;
            }
            int room = layer == 0 ? width - 1 - x : board.height - 1 - y;
            int length = 0;
            while (length < room && (board.steps[p + length * apart] & step) != 0) {
                length++;
            }
            takeBox(board.owner[p], layer, x, y, layer == 0 ? x + length : x, layer == 0 ? y : y + length);
        }

        private void takeBox(int net, int layer, int x0, int y0, int x1, int y1) {
            if (writing) {
                setBox(nextBox[net], layer, 4 * x0 - 1, 4 * y0 - 1, 4 * x1 + 1, 4 * y1 + 1);
            }
            nextBox[net]++;
        }

        private boolean isThin(int box) {
            int at = STRIDE * box;
            return boxes[at + 3] - boxes[at + 1] < LEAST || boxes[at + 4] - boxes[at + 2] < LEAST;
        }

        private boolean isTooNear(int a, int b) {
            int one = STRIDE * a;
            int two = STRIDE * b;
            if (boxes[one] != boxes[two]) {
                return false;
            }
            int across = Math.max(boxes[two + 1] - boxes[one + 3], boxes[one + 1] - boxes[two + 3]);
            if (across >= LEAST) {
                return false;
            }
            int along = Math.max(boxes[two + 2] - boxes[one + 4], boxes[one + 2] - boxes[two + 4]);
            return along < LEAST && (across > 0 || along > 0);
        }

        private boolean isTouching(int a, int b) {
            int one = STRIDE * a;
            int two = STRIDE * b;
            return boxes[one + 1] <= boxes[two + 3] && boxes[two + 1] <= boxes[one + 3]
                    && boxes[one + 2] <= boxes[two + 4] && boxes[two + 2] <= boxes[one + 4];
        }

        void judge() {
            if (judged) {
                return;
            }
            judged = true;
            thin = 0;
            violations = 0;
            for (int a = 0; a < count; a++) {
                thin += isThin(a) ? 1 : 0;
                nearOnes[a] = 0;
                for (int b = a + 1; b < count; b++) {
                    if (isTooNear(a, b)) {
                        nearOnes[a]++;
                    }
                }
                violations += nearOnes[a];
            }
            violations += thin;
        }

        /** Of violation k, which is there: its one box, or the other. */
        int sideOf(int k, int side) {
            if (k < thin) {
                return side == 0 ? thinBox(k) : NONE;
            }
            int rest = k - thin;
            int a = 0;
            while (a < count - 1 && rest >= nearOnes[a]) {
                rest -= nearOnes[a];
                a++;
            }
            if (side == 0) {
                return a;
            }
            for (int b = a + 1; b < count; b++) {
                if (isTooNear(a, b)) {
                    if (rest == 0) {
                        return b;
                    }
                    rest--;
                }
            }
            return NONE;
        }

        private int thinBox(int k) {
            int rest = k;
            for (int box = 0; box < count; box++) {
                if (isThin(box)) {
                    if (rest == 0) {
                        return box;
                    }
                    rest--;
                }
            }
            return NONE;
        }

        void findAgain(Board board, int registers) {
            if (searched) {
                return;
            }
            searched = true;
            joinBoxes();
            for (int box = 0; box < count; box++) {
                partPins[box] = 0;
            }
            pinnedParts = 0;
            for (int pin = 0; pin < Board.PINS; pin++) {
                findPin(board, pin, registers);
            }
            looseParts = 0;
            for (int box = 0; box < count; box++) {
                if (parent[box] == box) {
                    pinnedParts += partPins[box];
                    looseParts += 1 - partPins[box];
                }
            }
            countShorts(board);
            countOpens(board);
        }

        private void joinBoxes() {
            for (int box = 0; box < count; box++) {
                parent[box] = box;
            }
            for (int a = 0; a < count; a++) {
                int layer = boxes[STRIDE * a];
                for (int b = a + 1; b < count; b++) {
                    int other = boxes[STRIDE * b];
                    boolean joins = layer == other ? layer < 2 : layer == 2 || other == 2;
                    if (joins && isTouching(a, b)) {
                        parent[topOf(a)] = topOf(b);
                    }
                }
            }
        }

        private int topOf(int box) {
            int at = box;
            for (int guard = 0; guard < BOXES && parent[at] != at; guard++) {
                parent[at] = parent[parent[at]];
                at = parent[at];
            }
            return at;
        }

        /**
         * A pin with a net and without a box is a part by itself, which has a number below 0. The
         * pin of a flop whose next value is tied is a pin, too, but such a part is none.
         */
        private void findPin(Board board, int pin, int registers) {
            boolean tied = pin < 4 * registers && pin % 4 == 0 && board.pinNet[pin] == NONE;
            if (board.pinNet[pin] == NONE && !tied) {
                return;
            }
            int x = 4 * board.pinX(pin);
            int y = 4 * board.pinY(pin);
            pinPart[pin] = -1 - pin;
            for (int box = 0; box < count; box++) {
                int at = STRIDE * box;
                boolean inside = boxes[at] == 0 && boxes[at + 1] <= x && x <= boxes[at + 3]
                        && boxes[at + 2] <= y && y <= boxes[at + 4];
                if (inside) {
                    pinPart[pin] = topOf(box);
                    partPins[pinPart[pin]] = 1;
                    return;
                }
            }
            pinnedParts += tied ? 0 : 1;
        }

        private void countShorts(Board board) {
            shorts = 0;
            Arrays.fill(shorted, 0L);
            for (int p = 0; p < Board.PINS; p++) {
                int one = board.pinNet[p];
                for (int q = p + 1; one != NONE && q < Board.PINS; q++) {
                    int two = board.pinNet[q];
                    if (two != NONE && one != two && pinPart[p] == pinPart[q]) {
                        int least = Math.min(one, two);
                        int most = Math.max(one, two);
                        shorted[least * SHORT_WORDS + (most >> 6)] |= 1L << (most & 63);
                    }
                }
            }
            for (int at = 0; at < shorted.length; at++) {
                shorts += Long.bitCount(shorted[at]);
            }
        }

        private void countOpens(Board board) {
            opens = 0;
            for (int net = 0; net < Chip.NETS; net++) {
                int apart = 0;
                for (int k = 1; k < board.netPins[net]; k++) {
                    if (pinPart[board.pinAt(net, k)] != pinPart[board.pinAt(net, 0)]) {
                        apart = 1;
                    }
                }
                opens += apart;
            }
        }
    }

    // ======== time and waves

    /** Times, paths and waves; the paths and the wave asked for last are kept until they may differ. */
    private static final class Times {
        static final int PATHS = 40;
        private static final int FLOP_TIME = 3;
        private static final int NEXT_TIME = 2;
        private static final int END_NET = 10000;
        private static final int PATH_SIZE = Chip.GATES + 2;
        private static final int CHANGES = 20000;
        private static final int NEVER = 0x7FFFFFFF;

        private final int[] time = new int[Chip.NETS];
        private final int[] arrive = new int[Chip.NETS];
        private final int[] rest = new int[Design.PATTERN_BITS * Chip.NETS];
        private Chip pathChip;
        private int pathStamp;
        private int pathCount;
        private final int[] order = new int[PATHS + 1];
        private final int[] bound = new int[PATHS + 1];
        private final int[] size = new int[PATHS + 1];
        private final int[] rows = new int[(PATHS + 1) * PATH_SIZE];
        private final int[] trail = new int[PATH_SIZE];
        private int trailSize;
        private Chip waveChip;
        private int waveStamp;
        private int waveA;
        private int waveB;
        boolean waveTooLong;
        private final int[] before = new int[Chip.NETS];
        private final int[] waveFrom = new int[Chip.NETS + 1];
        private final int[] change = new int[CHANGES];

        private void measure(Chip c) {
            for (int net = 0; net < c.nets(); net++) {
                int own = net < c.firstGateNet() ? FLOP_TIME : c.cells.delay[c.gateCell[net - c.firstGateNet()]];
                int wire = c.board.netWire[net] / 4;
                time[net] = net < c.inputs ? 0 : own + c.board.netPins[net] - 1 + wire;
            }
        }

        int arrivalOf(Chip c, int wanted, boolean late) {
            measure(c);
            for (int net = 0; net <= wanted; net++) {
                arrive[net] = time[net];
                int gate = net - c.firstGateNet();
                if (gate >= 0) {
                    int most = arrive[c.gateNet[3 * gate]];
                    for (int k = 1; k < c.gateInputs(gate); k++) {
                        int other = arrive[c.gateNet[3 * gate + k]];
                        most = late ? Math.max(most, other) : Math.min(most, other);
                    }
                    arrive[net] += most;
                }
            }
            return arrive[wanted];
        }

        int pathPart(int k, int what) {
            if (k >= pathCount) {
                return NONE;
            }
            int slot = order[k];
            int nets = size[slot] - 1;
            switch (what) {
                case -1: return bound[slot];
                case -2: return rows[slot * PATH_SIZE + nets] - END_NET;
                case -3: return nets;
                default: return what >= 0 && what < nets ? rows[slot * PATH_SIZE + what] : NONE;
            }
        }

        /**
         * Beginnings of paths stand by the length of their longest path, then by nets; the first
         * one that is not whole is made longer by a net in each way, until the first forty are
         * whole. Each beginning leads to a path, so no more than forty are kept.
         */
        void findPaths(Chip c) {
            if (pathChip == c && pathStamp == c.board.timeStamp) {
                return;
            }
            pathChip = c;
            pathStamp = c.board.timeStamp;
            measure(c);
            findRest(c);
            pathCount = 0;
            for (int slot = 0; slot <= PATHS; slot++) {
                order[slot] = slot;
            }
            for (int first = 0; first < c.firstGateNet(); first++) {
                trailSize = 0;
                offer(first, time[first], rest[first * Chip.NETS + first]);
            }
            int done = 0;
            for (int guard = 0; guard < 1000000 && done < pathCount; guard++) {
                int slot = order[done];
                if (rows[slot * PATH_SIZE + size[slot] - 1] >= END_NET) {
                    done++;
                } else {
                    lengthen(c, done);
                }
            }
        }

        /** The longest way from each net to an end that is not false for a first net; NONE without. */
        private void findRest(Chip c) {
            Arrays.fill(rest, NONE);
            for (int first = 0; first < c.firstGateNet(); first++) {
                int base = first * Chip.NETS;
                for (int end = 0; end < c.ends(); end++) {
                    int net = c.endNet(end);
                    if (net >= 0 && (c.falseEnds[first] >> end & 1) == 0) {
                        rest[base + net] = Math.max(rest[base + net], end < c.outputs ? 0 : NEXT_TIME);
                    }
                }
                for (int gate = c.gates - 1; gate >= 0; gate--) {
                    int net = c.firstGateNet() + gate;
                    for (int k = 0; rest[base + net] != NONE && k < c.gateInputs(gate); k++) {
                        int from = base + c.gateNet[3 * gate + k];
                        rest[from] = Math.max(rest[from], time[net] + rest[base + net]);
                    }
                }
            }
        }

        private void lengthen(Chip c, int place) {
            int slot = order[place];
            trailSize = size[slot];
            System.arraycopy(rows, slot * PATH_SIZE, trail, 0, trailSize);
            removeAt(place);
            int base = trail[0] * Chip.NETS;
            int last = trail[trailSize - 1];
            int length = 0;
            for (int k = 0; k < trailSize; k++) {
                length += time[trail[k]];
            }
            for (int gate = Math.max(0, last - c.firstGateNet() + 1); gate < c.gates; gate++) {
                int net = c.firstGateNet() + gate;
                boolean follows = false;
                for (int k = 0; k < c.gateInputs(gate); k++) {
                    follows = follows || c.gateNet[3 * gate + k] == last;
                }
                if (follows) {
                    offer(net, length + time[net], rest[base + net]);
                }
            }
            for (int end = 0; end < c.ends(); end++) {
                if (c.endNet(end) == last && (c.falseEnds[trail[0]] >> end & 1) == 0) {
                    offer(END_NET + end, length, end < c.outputs ? 0 : NEXT_TIME);
                }
            }
        }

        private void removeAt(int place) {
            int slot = order[place];
            System.arraycopy(order, place + 1, order, place, PATHS - place);
            order[PATHS] = slot;
            pathCount--;
        }

        /** The trail and one net more is a beginning, if an end can be reached from there. */
        private void offer(int net, int length, int behind) {
            if (behind == NONE || trailSize >= PATH_SIZE) {
                return;
            }
            int slot = order[pathCount];
            System.arraycopy(trail, 0, rows, slot * PATH_SIZE, trailSize);
            rows[slot * PATH_SIZE + trailSize] = net;
            size[slot] = trailSize + 1;
            bound[slot] = length + behind;
            int at = pathCount;
            while (at > 0 && comesBefore(slot, order[at - 1])) {
                order[at] = order[at - 1];
                at--;
            }
            order[at] = slot;
            if (pathCount < PATHS) {
                pathCount++;
            }
        }

        private boolean comesBefore(int one, int two) {
            if (bound[one] != bound[two]) {
                return bound[one] > bound[two];
            }
            int shorter = Math.min(size[one], size[two]);
            for (int k = 0; k < shorter; k++) {
                int a = rows[one * PATH_SIZE + k];
                int b = rows[two * PATH_SIZE + k];
                if (a != b) {
                    return a < b;
                }
            }
            return size[one] < size[two];
        }

        void makeWave(Chip c, int a, int b) {
            if (waveChip == c && waveStamp == c.board.timeStamp && waveA == a && waveB == b) {
                return;
            }
            waveChip = c;
            waveStamp = c.board.timeStamp;
            waveA = a;
            waveB = b;
            waveTooLong = false;
            measure(c);
            waveFrom[0] = 0;
            for (int net = 0; net < c.nets() && !waveTooLong; net++) {
                waveFrom[net + 1] = waveFrom[net];
                if (net < c.firstGateNet()) {
                    before[net] = a >> net & 1;
                    if (before[net] != (b >> net & 1)) {
                        putChange(net, 0);
                    }
                } else {
                    ripple(c, net);
                }
            }
        }

        private void putChange(int net, int when) {
            int at = waveFrom[net + 1];
            if (at == CHANGES) {
                waveTooLong = true;
            } else {
                change[at] = when;
                waveFrom[net + 1]++;
            }
        }

        /** A gate looks at its inputs whenever one of them changes; what differs comes its time later. */
        private void ripple(Chip c, int net) {
            int gate = net - c.firstGateNet();
            int inputs = c.gateInputs(gate);
            int table = c.cells.table[c.gateCell[gate]];
            int state = 0;
            for (int k = 0; k < inputs; k++) {
                state |= before[c.gateNet[3 * gate + k]] << k;
            }
            int value = table >> state & 1;
            before[net] = value;
            int net0 = c.gateNet[3 * gate];
            int net1 = inputs > 1 ? c.gateNet[3 * gate + 1] : net0;
            int net2 = inputs > 2 ? c.gateNet[3 * gate + 2] : net0;
            int at0 = waveFrom[net0];
            int at1 = inputs > 1 ? waveFrom[net1] : waveFrom[net1 + 1];
            int at2 = inputs > 2 ? waveFrom[net2] : waveFrom[net2 + 1];
            for (int guard = 0; guard < 3 * CHANGES && !waveTooLong; guard++) {
                int when0 = at0 < waveFrom[net0 + 1] ? change[at0] : NEVER;
                int when1 = at1 < waveFrom[net1 + 1] ? change[at1] : NEVER;
                int when2 = at2 < waveFrom[net2 + 1] ? change[at2] : NEVER;
                int when = Math.min(when0, Math.min(when1, when2));
                if (when == NEVER) {
                    return;
                }
                state ^= (when0 == when ? 1 : 0) | (when1 == when ? 2 : 0) | (when2 == when ? 4 : 0);
                at0 += when0 == when ? 1 : 0;
                at1 += when1 == when ? 1 : 0;
                at2 += when2 == when ? 1 : 0;
                if ((table >> state & 1) != value) {
                    value ^= 1;
                    putChange(net, when + time[net]);
                }
            }
        }

        int changesOf(int net) {
            return waveFrom[net + 1] - waveFrom[net];
        }

        int valueAt(int net, int when) {
            int value = before[net];
            for (int at = waveFrom[net]; at < waveFrom[net + 1] && change[at] <= when; at++) {
                value ^= 1;
            }
            return value;
        }

        int restTime(int nets) {
            int last = 0;
            for (int at = 0; at < waveFrom[nets]; at++) {
                last = Math.max(last, change[at]);
            }
            return last;
        }
    }

    // ======== tests

    /**
     * Plays a chip over all patterns at once, 64 a word, without a fault and with one. What is
     * worked out stays until another chip, or another logic of this one, is asked for.
     */
    private static final class Tester {
        private static final int WORDS = Design.PATTERNS / 64;

        private Chip chip;
        private int stamp;
        private int words;
        private long mask;
        private final long[] good = new long[Chip.NETS * WORDS];
        private final long[] bad = new long[Chip.NETS * WORDS];
        private final int[] touched = new int[Chip.NETS];
        private final long[] shown = new long[Chip.FAULTS * WORDS];
        private final int[] ready = new int[Chip.FAULTS];
        private final int[] tally = new int[Chip.FAULTS];

        private void prepare(Chip c) {
            if (chip == c && stamp == c.logicStamp) {
                return;
            }
            chip = c;
            stamp = c.logicStamp;
            int bits = c.firstGateNet();
            words = bits <= 6 ? 1 : 1 << bits - 6;
            mask = bits >= 6 ? -1L : (1L << (1 << bits)) - 1;
            Arrays.fill(ready, 0);
            Arrays.fill(touched, 0);
            for (int net = 0; net < bits; net++) {
                for (int w = 0; w < words; w++) {
                    good[net * WORDS + w] = Builder.bitWord(net, w);
                }
            }
            for (int gate = 0; gate < c.gates; gate++) {
                int net = bits + gate;
                workGate(gate, NONE, 0);
                System.arraycopy(bad, net * WORDS, good, net * WORDS, words);
            }
        }

        void fillTable(Chip c) {
            prepare(c);
            Arrays.fill(c.table, 0);
            int patterns = 1 << c.firstGateNet();
            for (int end = 0; end < c.ends(); end++) {
                int net = c.endNet(end);
                int shift = end < c.outputs ? end : Design.OUTPUTS + end - c.outputs;
                for (int p = 0; p < patterns; p++) {
                    int bit = net < 0 ? -1 - net : (int) (good[net * WORDS + (p >> 6)] >> (p & 63) & 1);
                    c.table[p] |= bit << shift;
                }
            }
        }

        private static long oneInput(int table, long x) {
            return ((table & 1) == 0 ? 0 : ~x) | ((table & 2) == 0 ? 0 : x);
        }

        private static long twoInputs(int table, long x, long y) {
            return ~y & oneInput(table, x) | y & oneInput(table >> 2, x);
        }

        /** An input from the fault's side of things, unless it is the one that is stuck. */
        private long inputWord(int gate, int k, int w) {
            int net = chip.gateNet[3 * gate + k];
            return touched[net] != 0 ? bad[net * WORDS + w] : good[net * WORDS + w];
        }

        /** Works out a gate with an input stuck, or NONE: whether its net differs from the good one. */
        private boolean workGate(int gate, int stuck, long value) {
            int inputs = chip.gateInputs(gate);
            int table = chip.cells.table[chip.gateCell[gate]];
            int to = (chip.firstGateNet() + gate) * WORDS;
            long differs = 0;
            for (int w = 0; w < words; w++) {
                long x = stuck == 0 ? value : inputWord(gate, 0, w);
                long y = inputs < 2 ? 0 : stuck == 1 ? value : inputWord(gate, 1, w);
                long z = inputs < 3 ? 0 : stuck == 2 ? value : inputWord(gate, 2, w);
                long word = twoInputs(table, x, y);
                if (inputs > 2) {
                    word = ~z & word | z & twoInputs(table >> 4, x, y);
                }
                bad[to + w] = word;
                differs |= (word ^ good[to + w]) & mask;
            }
            return differs != 0;
        }

        /** Works out which patterns show a fault. */
        void workFault(Chip c, int fault) {
            prepare(c);
            if (ready[fault] != 0) {
                return;
            }
            ready[fault] = 1;
            Arrays.fill(touched, 0);
            long value = (fault & 1) == 0 ? 0 : -1L;
            int from;
            if (fault < 2 * c.nets()) {
                int net = fault >> 1;
                touched[net] = 1;
                Arrays.fill(bad, net * WORDS, net * WORDS + words, value);
                from = Math.max(0, net - c.firstGateNet() + 1);
            } else {
                int input = fault / 2 - c.nets();
                int gate = 0;
                while (gate < c.gates - 1 && input >= c.gateInputs(gate)) {
                    input -= c.gateInputs(gate);
                    gate++;
                }
                touched[c.firstGateNet() + gate] = workGate(gate, input, value) ? 1 : 0;
                from = gate + 1;
            }
            for (int gate = from; gate < c.gates; gate++) {
                boolean reached = false;
                for (int k = 0; k < c.gateInputs(gate); k++) {
                    reached = reached || touched[c.gateNet[3 * gate + k]] != 0;
                }
                if (reached && workGate(gate, NONE, 0)) {
                    touched[c.firstGateNet() + gate] = 1;
                }
            }
            keepShown(fault);
        }

        private void keepShown(int fault) {
            int to = fault * WORDS;
            Arrays.fill(shown, to, to + WORDS, 0L);
            for (int end = 0; end < chip.ends(); end++) {
                int net = chip.endNet(end);
                if (net >= 0 && touched[net] != 0) {
                    for (int w = 0; w < words; w++) {
                        shown[to + w] |= (good[net * WORDS + w] ^ bad[net * WORDS + w]) & mask;
                    }
                }
            }
        }

        boolean isShown(int pattern, int fault) {
            return (shown[fault * WORDS + (pattern >> 6)] >> (pattern & 63) & 1) != 0;
        }

        int leastPattern(Chip c, int fault) {
            workFault(c, fault);
            for (int w = 0; w < words; w++) {
                long word = shown[fault * WORDS + w];
                if (word != 0) {
                    return 64 * w + Long.numberOfTrailingZeros(word);
                }
            }
            return NONE;
        }

        int countHidden(Chip c) {
            int hidden = 0;
            for (int fault = 0; fault < c.faultCount(); fault++) {
                hidden += leastPattern(c, fault) == NONE ? 1 : 0;
            }
            return hidden;
        }

        void makeSet(Chip c) {
            c.setSize = 0;
            int all = c.faultCount();
            for (int fault = 0; fault < all; fault++) {
                int least = leastPattern(c, fault);
                if (least != NONE && showing(c, fault) == 0) {
                    c.setPattern[c.setSize] = least;
                    c.setSize++;
                }
            }
            for (int fault = 0; fault < all; fault++) {
                tally[fault] = showing(c, fault);
            }
            for (int k = c.setSize - 1; k >= 0; k--) {
                if (isSpare(c.setPattern[k], all)) {
                    removePattern(c, k, all);
                }
            }
            Arrays.fill(c.setFails, 0);
        }

        /** How many patterns of the set show a fault. */
        private int showing(Chip c, int fault) {
            int count = 0;
            for (int k = 0; k < c.setSize; k++) {
                count += isShown(c.setPattern[k], fault) ? 1 : 0;
            }
            return count;
        }

        private boolean isSpare(int pattern, int all) {
            for (int fault = 0; fault < all; fault++) {
                if (tally[fault] == 1 && isShown(pattern, fault)) {
                    return false;
                }
            }
            return true;
        }

        private void removePattern(Chip c, int k, int all) {
            for (int fault = 0; fault < all; fault++) {
                tally[fault] -= isShown(c.setPattern[k], fault) ? 1 : 0;
            }
            System.arraycopy(c.setPattern, k + 1, c.setPattern, k, c.setSize - 1 - k);
            c.setSize--;
        }

        int countShownBySet(Chip c) {
            int count = 0;
            for (int fault = 0; fault < c.faultCount(); fault++) {
                workFault(c, fault);
                count += showing(c, fault) > 0 ? 1 : 0;
            }
            return count;
        }

        int suspectOf(Chip c, int wanted) {
            int rest = wanted;
            for (int fault = 0; fault < c.faultCount(); fault++) {
                workFault(c, fault);
                boolean suspected = showing(c, fault) > 0;
                for (int k = 0; k < c.setSize && suspected; k++) {
                    suspected = isShown(c.setPattern[k], fault) == (c.setFails[k] != 0);
                }
                if (suspected) {
                    if (rest == 0) {
                        return fault;
                    }
                    rest--;
                }
            }
            return NONE;
        }
    }
}
