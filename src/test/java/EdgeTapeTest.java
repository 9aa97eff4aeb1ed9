/** Promises 1 to 3 and 55, and THE TAPE of section 1: empty, full, cut off, read to its last byte. */
public final class EdgeTapeTest {
    private static final int BLANK = 0x20202020;
    private static final int LEAST = -2147483648;
    private static final int MOST = 2147483647;

    private static int blanks(ChipFlow x) {
        return x.feed(BLANK, BLANK, BLANK, BLANK, BLANK);
    }

    /** The bytes of "module a{out y=1@1;}". */
    private static int smallest(ChipFlow x) {
        return x.feed(0x6d6f6475, 0x6c652061, 0x7b6f7574, 0x20793d31, 0x40313b7d);
    }

    /** 1: an empty tape; no designs, libraries, chips; no witness. */
    private static void newHouse() {
        ChipFlow x = new ChipFlow();
        Check.same("1: tape", x.tape(), 0);
        Check.same("1: fault", x.fault(), 0);
        int[] numbers = {LEAST, -2, -1, 0, 1, 5, 6, MOST};
        for (int k : numbers) {
            Check.index("1: no witness", () -> x.witness(k));
            Check.same("1: no design", x.isThere(0, k), false);
            Check.same("1: no library", x.isThere(1, k), false);
            Check.same("1: no chip", x.isThere(2, k), false);
            Check.index("1: no design", () -> x.state(k));
            Check.index("1: no library", () -> x.cell(k, -1, 0));
            Check.index("1: no chip", () -> x.reset(k));
        }
    }

    /** 2: twenty bytes more, the highest of each number first: a byte that no token has is found in each place. */
    private static void bytesInOrder() {
        for (int place = 0; place < 20; place++) {
            ChipFlow x = new ChipFlow();
            int[] five = {BLANK, BLANK, BLANK, BLANK, BLANK};
            five[place / 4] = BLANK & ~(255 << 24 - 8 * (place % 4)) | 0x24 << 24 - 8 * (place % 4);
            Check.same("2: feed", x.feed(five[0], five[1], five[2], five[3], five[4]), 20);
            Check.same("2: place of the byte", x.design(), -1 - place);
            Check.same("2: code", x.fault(), 1);
        }
        ChipFlow y = new ChipFlow();
        Check.same("2: how many it has", blanks(y), 20);
        Check.same("2: how many it has", blanks(y), 40);
        Check.same("2: bytes above 127", y.feed(-1, LEAST, MOST, 0, 128), 60);
        Check.same("55: tape", y.tape(), 60);
        Check.same("2: the first such byte", y.design(), -41);
    }

    /** THE TAPE has up to 65536 bytes; 2: they would be more than 65536. */
    private static void fullTape() {
        ChipFlow x = new ChipFlow();
        for (int k = 1; k <= 3276; k++) {
            Check.same("2: feed", blanks(x), 20 * k);
        }
        Check.noRoom(x, "2: 65520 and 20 are too many", () -> blanks(x));
        x.end(65517);
        Check.noRoom(x, "2: 65537 are too many", () -> blanks(x));
        x.end(65516);
        Check.same("2: 65536 are not", smallest(x), 65536);
        Check.same("55: full", x.tape(), 65536);
        Check.noRoom(x, "2: full", () -> x.feed(0, 0, 0, 0, 0));
        Check.noArgument(x, "3: more than a full tape has", () -> {
            x.end(65537);
            return 0;
        });
        x.end(65536);
        Check.same("3: all of it", x.tape(), 65536);
        Check.same("4: the last bytes of a full tape", x.design(), 0);
        Check.same("4: empty then", x.tape(), 0);
        Check.same("2: fed again", blanks(x), 20);
    }

    private static void fullTapeWithFault() {
        ChipFlow x = new ChipFlow();
        for (int k = 0; k < 3276; k++) {
            blanks(x);
        }
        x.end(65516);
        blanks(x);
        Check.same("2 at the tape's length", x.design(), -1 - 65536);
        Check.same("its code", x.fault(), 2);
        for (int k = 0; k < 3276; k++) {
            blanks(x);
        }
        x.end(65516);
        x.feed(BLANK, BLANK, BLANK, BLANK, 0x2020203c);
        Check.same("1 at the last byte: < alone", x.library(), -1 - 65535);
        Check.same("its code", x.fault(), 1);
    }

    /** 3: the tape keeps its first n bytes; n is below 0, or it has not so many. */
    private static void cutOff() {
        ChipFlow x = new ChipFlow();
        int[] wrong = {LEAST, -1, 1, MOST};
        for (int n : wrong) {
            Check.noArgument(x, "3: end(" + n + ") of an empty tape", () -> {
                x.end(n);
                return 0;
            });
        }
        x.end(0);
        Check.same("55: tape", x.tape(), 0);
        smallest(x);
        smallest(x);
        int[] beyond = {LEAST, -1, 41, MOST};
        for (int n : beyond) {
            Check.noArgument(x, "3: end(" + n + ") of 40 bytes", () -> {
                x.end(n);
                return 0;
            });
        }
        x.end(40);
        Check.same("55: all stay", x.tape(), 40);
        x.end(39);
        Check.same("55: one goes", x.tape(), 39);
        Check.argument("3: it has gone", () -> {
            x.end(40);
            return 0;
        });
        x.end(20);
        Check.same("3: the first bytes stay", x.design(), 0);
        smallest(x);
        x.end(0);
        Check.same("3: none stays", x.tape(), 0);
        Check.same("4: an empty tape", x.design(), -1);
        smallest(x);
        x.end(19);
        x.feed(0x7d202020, BLANK, BLANK, BLANK, BLANK);
        Check.same("3: bytes come behind what is kept", x.tape(), 39);
        Check.same("4: and are one text with it", x.design(), 1);
    }

    /** A refused call leaves the bytes of the tape, too. */
    private static void bytesStay() {
        ChipFlow x = new ChipFlow();
        smallest(x);
        Check.argument("3: end", () -> {
            x.end(21);
            return 0;
        });
        Check.index("7: drop", () -> {
            x.drop(0, 0);
            return 0;
        });
        Check.same("4: design", x.design(), 0);
        ChipFlow full = new ChipFlow();
        for (int k = 0; k < 3275; k++) {
            blanks(full);
        }
        smallest(full);
        Check.room("2: feed", () -> full.feed(-1, -1, -1, -1, -1));
        Check.same("4: design", full.design(), 0);
    }

    /** An object is used for at most 512 calls: the last of them is answered as any other. */
    private static void lastCall() {
        ChipFlow x = new ChipFlow();
        for (int k = 1; k <= 510; k++) {
            Check.same("2: feed", blanks(x), 20 * k);
        }
        smallest(x);
        Check.same("4: the 512th call", x.design(), 0);
    }

    public static void main(String[] args) {
        newHouse();
        bytesInOrder();
        fullTape();
        fullTapeWithFault();
        cutOff();
        bytesStay();
        lastCall();
        Check.finish("EdgeTapeTest");
    }
}
