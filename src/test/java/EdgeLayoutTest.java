import java.lang.reflect.Field;
import java.util.Arrays;
import java.util.List;

/** Section 7 and promises 36 to 42: no boxes, as many as may be, boxes at their bounds, gaps and touches by one. */
public final class EdgeLayoutTest {
    private static final int LEAST = -2147483648;
    private static final int MOST = 2147483647;
    private static final int[] NO_CHIPS = {LEAST, -1, 1, 4, MOST};

    /** 36 to 42: no such chip is named first of all. */
    private static void numbersOfChips() {
        ChipFlow x = Check.drawn();
        for (int c : NO_CHIPS) {
            Check.noIndex(x, "36: chip " + c, () -> x.draw(c));
            Check.noIndex(x, "37: chip " + c, () -> x.box(c, 0, 5));
            Check.noIndex(x, "38: chip " + c, () -> x.add(c, 3, 0, 0, 0, 0));
            Check.noIndex(x, "39: chip " + c, () -> x.erase(c, 0));
            Check.noIndex(x, "40: chip " + c, () -> x.check(c));
            Check.noIndex(x, "41: chip " + c, () -> x.violation(c, 0, 0));
            Check.noIndex(x, "42: chip " + c, () -> x.found(c, 5));
        }
    }

    /** Of a chip without a layout numbers from 0 on of boxes and violations, and a box NONE, count as there. */
    private static void undrawn(ChipFlow x) {
        int[] there = {0, 1, 1999, 2000, MOST};
        for (int k : there) {
            Check.noState(x, "37: box " + k, () -> x.box(0, k, 0));
            Check.noState(x, "37: box " + k, () -> x.box(0, k, 4));
            Check.noArgument(x, "37: what before that", () -> x.box(0, k, 5));
            Check.noArgument(x, "37: what before that", () -> x.box(0, k, -1));
            Check.noState(x, "39: box " + k, () -> x.erase(0, k));
            Check.noState(x, "41: violation " + k, () -> x.violation(0, k, 0));
            Check.noState(x, "41: violation " + k, () -> x.violation(0, k, 1));
            Check.noIndex(x, "41: side before that", () -> x.violation(0, k, 2));
            Check.noIndex(x, "41: side before that", () -> x.violation(0, k, -1));
        }
        Check.noState(x, "37: box NONE", () -> x.box(0, -1, 0));
        Check.noArgument(x, "37: box NONE, another what", () -> x.box(0, -1, 1));
        int[] none = {LEAST, -2};
        for (int k : none) {
            Check.noIndex(x, "37: box " + k, () -> x.box(0, k, 0));
            Check.noIndex(x, "39: box " + k, () -> x.erase(0, k));
            Check.noIndex(x, "41: violation " + k, () -> x.violation(0, k, 0));
        }
        Check.noIndex(x, "41: violation -1", () -> x.violation(0, -1, 0));
        Check.noState(x, "38: add", () -> x.add(0, 0, 0, 0, 1, 1));
        Check.noArgument(x, "38: layer before that", () -> x.add(0, 3, 0, 0, 1, 1));
        Check.noArgument(x, "38: x before that", () -> x.add(0, 0, 1, 0, 1, 1));
        Check.noArgument(x, "38: y before that", () -> x.add(0, 0, 0, 1, 1, 1));
        Check.noState(x, "40: check", () -> x.check(0));
        Check.noState(x, "42: found", () -> x.found(0, 4));
        Check.noArgument(x, "42: what before that", () -> x.found(0, 5));
    }

    /** 36: it was not routed; 37: nothing was drawn (or that went). */
    private static void whenUndrawn() {
        ChipFlow x = Check.chip(Check.PAIR, Check.NAND);
        undrawn(x);
        Check.noState(x, "36: no places", () -> x.draw(0));
        x.place(0, 9);
        undrawn(x);
        Check.noState(x, "36: not routed", () -> x.draw(0));
        x.route(0, 0);
        undrawn(x);
        x.draw(0);
        x.route(0, 0);
        undrawn(x);
        x.draw(0);
        x.move(0, 1, 5, 0);
        undrawn(x);
        x.route(0, 0);
        x.draw(0);
        x.place(0, 9);
        undrawn(x);
        Check.noState(x, "36: that went", () -> x.draw(0));
    }

    /** 37: no such box, what; box NONE has no what but 0. */
    private static void numbersOfBoxes() {
        ChipFlow x = Check.drawn();
        int boxes = x.box(0, -1, 0);
        int[] none = {LEAST, -2, boxes, boxes + 1, MOST};
        for (int b : none) {
            Check.noIndex(x, "37: box " + b, () -> x.box(0, b, 0));
            Check.noIndex(x, "37: box " + b + " before what", () -> x.box(0, b, 5));
            Check.noIndex(x, "39: box " + b, () -> x.erase(0, b));
        }
        Check.noIndex(x, "39: box -1", () -> x.erase(0, -1));
        int[] whats = {LEAST, -1, 5, MOST};
        for (int what : whats) {
            Check.noArgument(x, "37: what " + what, () -> x.box(0, boxes - 1, what));
            Check.noArgument(x, "37: NONE, what " + what, () -> x.box(0, -1, what));
            Check.noArgument(x, "42: what " + what, () -> x.found(0, what));
        }
        for (int what = 1; what <= 4; what++) {
            int w = what;
            Check.noArgument(x, "37: NONE, what " + what, () -> x.box(0, -1, w));
        }
    }

    private static void wrong(ChipFlow x, int layer, int x0, int y0, int x1, int y1) {
        Check.noArgument(x, "38: add " + layer + " " + x0 + " " + y0 + " " + x1 + " " + y1, () -> x.add(0, layer, x0, y0, x1, y1));
    }

    private static void right(ChipFlow x, int layer, int x0, int y0, int x1, int y1) {
        int number = x.box(0, -1, 0);
        Check.same("38: its number", x.add(0, layer, x0, y0, x1, y1), number);
        int[] due = {layer, x0, y0, x1, y1};
        for (int what = 0; what < 5; what++) {
            Check.same("37: box", x.box(0, number, what), due[what]);
        }
        Check.same("37: one more", x.box(0, -1, 0), number + 1);
    }

    /** 38: the layer is not 0 .. 2, x0 not below x1, y0 not below y1, or one is not -1000 .. 1000. */
    private static void boundsOfBoxes() {
        ChipFlow x = Check.drawn();
        int[] layers = {LEAST, -1, 3, MOST};
        for (int layer : layers) {
            wrong(x, layer, 0, 0, 1, 1);
        }
        for (int layer = 0; layer < 3; layer++) {
            right(x, layer, 0, 0, 1, 1);
            right(x, layer, -1000, -1000, 1000, 1000);
            right(x, layer, -1000, -1000, -999, -999);
            right(x, layer, 999, 999, 1000, 1000);
        }
        int[][] wrongs = {{0, 0, 0, 1}, {1, 0, 0, 1}, {0, 0, 1, 0}, {0, 1, 1, 0}, {-1001, 0, 1, 1}, {0, -1001, 1, 1},
            {0, 0, 1001, 1}, {0, 0, 1, 1001}, {-1001, 0, -1000, 1}, {1000, 0, 1001, 1}, {0, -1001, 1, -1000}, {0, 1000, 1, 1001},
            {1000, 0, 1000, 1}, {0, -1000, 1, -1000}, {LEAST, 0, MOST, 1}, {0, LEAST, 1, MOST}, {MOST, 0, LEAST, 1},
            {0, 0, MOST, 1}, {LEAST, 0, 0, 1}};
        for (int[] w : wrongs) {
            wrong(x, 0, w[0], w[1], w[2], w[3]);
        }
    }

    /** A box can be added, erased; 2000 at most. */
    private static void fullLayout() {
        ChipFlow x = Check.drawn();
        int first = x.box(0, -1, 0);
        for (int k = first; k < 2000; k++) {
            Check.same("38: add", x.add(0, 0, 100 + k % 2 * 2, 100, 101 + k % 2 * 2, 101), k);
        }
        Check.same("37: full", x.box(0, -1, 0), 2000);
        Check.noRoom(x, "38: the 2001st", () -> x.add(0, 0, 0, 0, 1, 1));
        Check.noArgument(x, "38: a wrong layer before that", () -> x.add(0, 3, 0, 0, 1, 1));
        int more = 2000 - first;
        // All added ones are thin, and those on the one side too near to those on the other.
        int odd = more / 2;
        Check.same("40: check", x.check(0), more + odd * (more - odd));
        Check.same("41: the first thin one", x.violation(0, 0, 0), first);
        Check.same("41: the last thin one", x.violation(0, more - 1, 0), 1999);
        Check.same("41: it has no other one", x.violation(0, more - 1, 1), -1);
        Check.same("41: the first pair", x.violation(0, more, 0) * 10000 + x.violation(0, more, 1), first * 10000 + first + 1);
        int last = more + odd * (more - odd) - 1;
        Check.same("41: the last pair", x.violation(0, last, 0) * 10000 + x.violation(0, last, 1), 1998 * 10000 + 1999);
        Check.index("41: no more", () -> x.violation(0, last + 1, 0));
        Check.same("42: two parts without a pin", x.found(0, 4), 2);
        Check.same("39: erase", x.erase(0, 1999), 1999);
        Check.same("38: room again", x.add(0, 0, 0, 900, 9, 909), 1999);
        Check.noRoom(x, "38: full again", () -> x.add(0, 0, 0, 0, 1, 1));
        x.route(0, 0);
        Check.noState(x, "38: a full layout that went is none", () -> x.add(0, 0, 0, 0, 1, 1));
        Check.same("36: drawn anew", x.draw(0), first);
        Check.same("37: the added ones went", x.box(0, -1, 0), first);
    }

    private static Object part(Object of, String name) throws ReflectiveOperationException {
        Field field = of.getClass().getDeclaredField(name);
        field.setAccessible(true);
        return field.get(of);
    }

    /**
     * 36: they would be more than 2000 (nothing is drawn then). Texts are not known to lead to so
     * many boxes (the most that was found is 1500), so points are given to nets by hand here.
     */
    private static void tooManyToDraw() throws ReflectiveOperationException {
        ChipFlow x = Check.chip(EdgeChipTest.chains(150), "cell and (a,b) = a & b , 2 , 1 ;");
        x.place(0, 60);
        x.route(0, 0);
        Object board = part(((Object[]) part(x, "chips"))[0], "board");
        int[] owner = (int[]) part(board, "owner");
        Arrays.fill((int[]) part(board, "steps"), 0);
        Arrays.fill(owner, -1);
        for (int p = 0; p < 2000; p++) {
            owner[p] = p % 162;
        }
        Check.same("36: 2000 boxes", x.draw(0), 2000);
        Check.same("37: 2000 boxes", x.box(0, -1, 0), 2000);
        Check.noRoom(x, "38: no more", () -> x.add(0, 0, 0, 0, 2, 2));
        owner[2000] = 7;
        Check.noRoom(x, "36: 2001 boxes", () -> x.draw(0));
        Check.same("36: the layout from before stays", x.box(0, -1, 0), 2000);
        owner[3] = -1;
        Check.same("36: 2000 again", x.draw(0), 2000);
        x.route(0, 0);
        for (int p = 0; p < owner.length; p++) {
            owner[p] = 0;
        }
        Check.noRoom(x, "36: far too many, and nothing was drawn before", () -> x.draw(0));
        Check.noState(x, "37: nothing is drawn", () -> x.box(0, -1, 0));
    }

    /** 39: those behind have numbers one less; down to none. */
    private static void emptyLayout() {
        ChipFlow x = Check.drawn();
        int boxes = x.box(0, -1, 0);
        int[] layers = new int[boxes];
        for (int b = 0; b < boxes; b++) {
            layers[b] = x.box(0, b, 0) * 1000000 + x.box(0, b, 1) * 1000 + x.box(0, b, 2);
        }
        Check.same("39: the last one", x.erase(0, boxes - 1), boxes - 1);
        Check.same("39: the first one", x.erase(0, 0), boxes - 2);
        Check.same("39: one between", x.erase(0, 3), boxes - 3);
        for (int b = 0; b < boxes - 3; b++) {
            int was = b < 3 ? b + 1 : b + 2;
            Check.same("37: box " + b, x.box(0, b, 0) * 1000000 + x.box(0, b, 1) * 1000 + x.box(0, b, 2), layers[was]);
        }
        for (int left = boxes - 4; left >= 0; left--) {
            Check.same("39: left", x.erase(0, 0), left);
        }
        Check.same("37: none", x.box(0, -1, 0), 0);
        Check.noIndex(x, "37: no box", () -> x.box(0, 0, 0));
        Check.noIndex(x, "39: no box", () -> x.erase(0, 0));
        Check.same("40: nothing is wrong", x.check(0), 0);
        Check.noIndex(x, "41: no violation", () -> x.violation(0, 0, 0));
        // Eight pins of four nets, each a part by itself.
        int[] due = {0, 0, 4, 8, 0};
        for (int what = 0; what < 5; what++) {
            Check.same("42: found " + what, x.found(0, what), due[what]);
        }
        Check.same("38: the first box", x.add(0, 1, 0, 0, 2, 2), 0);
    }

    /** A box with a side less than 2 is THIN. */
    private static void thinOnes() {
        for (int wide = 1; wide <= 3; wide++) {
            for (int high = 1; high <= 3; high++) {
                for (int layer = 0; layer < 3; layer++) {
                    ChipFlow x = Check.drawn();
                    int number = x.add(0, layer, 500, 500, 500 + wide, 500 + high);
                    boolean thin = wide < 2 || high < 2;
                    Check.same("40: " + wide + " by " + high, x.check(0), thin ? 1 : 0);
                    if (thin) {
                        Check.same("41: the box", x.violation(0, 0, 0), number);
                        Check.same("41: no other one", x.violation(0, 0, 1), -1);
                        Check.noIndex(x, "41: side", () -> x.violation(0, 0, 2));
                        Check.noIndex(x, "41: side", () -> x.violation(0, 0, -1));
                        Check.noIndex(x, "41: no more", () -> x.violation(0, 1, 0));
                    }
                }
            }
        }
    }

    /** The second box so far behind the first (below 0: it overlaps) in x and in y, on four sides. */
    private static int[] behind(int gapX, int gapY, int side) {
        int x0 = (side & 1) == 0 ? 510 + gapX : 500 - gapX - 10;
        int y0 = (side & 2) == 0 ? 510 + gapY : 500 - gapY - 10;
        return new int[] {x0, y0, x0 + 10, y0 + 10};
    }

    /** TOO NEAR: no point in common, and both gaps less than 2 (0 where they overlap or touch). */
    private static void nearOnes() {
        for (int gapX = -1; gapX <= 3; gapX++) {
            for (int gapY = -1; gapY <= 3; gapY++) {
                for (int side = 0; side < 4; side++) {
                    boolean common = gapX <= 0 && gapY <= 0;
                    boolean near = !common && gapX < 2 && gapY < 2;
                    int[] b = behind(gapX, gapY, side);
                    for (int layers = 0; layers < 9; layers++) {
                        ChipFlow x = Check.drawn();
                        int number = x.add(0, layers / 3, 500, 500, 510, 510);
                        x.add(0, layers % 3, b[0], b[1], b[2], b[3]);
                        boolean one = layers / 3 == layers % 3;
                        Check.same("40: gaps " + gapX + " " + gapY, x.check(0), near && one ? 1 : 0);
                        if (near && one) {
                            Check.same("41: the lesser number", x.violation(0, 0, 0), number);
                            Check.same("41: the other", x.violation(0, 0, 1), number + 1);
                        }
                        boolean joins = one ? layers < 8 : layers / 3 == 2 || layers % 3 == 2;
                        Check.same("42: parts without a pin", x.found(0, 4), joins && common ? 1 : 2);
                        Check.same("42: parts with one", x.found(0, 3), 4);
                    }
                }
            }
        }
    }

    /** VIOLATIONS: first thin ones, by number, then pairs, by the lesser number, then the other. */
    private static void orderOfViolations() {
        ChipFlow x = Check.drawn();
        int first = x.box(0, -1, 0);
        x.add(0, 0, 503, 500, 505, 502);
        x.add(0, 0, 506, 500, 507, 502);
        x.add(0, 0, 500, 500, 502, 502);
        x.add(0, 0, 503, 503, 505, 504);
        int[][] due = {{1, -1}, {3, -1}, {0, 1}, {0, 2}, {0, 3}, {1, 3}, {2, 3}};
        Check.same("40: check", x.check(0), due.length);
        for (int k = 0; k < due.length; k++) {
            Check.same("41: box of " + k, x.violation(0, k, 0), first + due[k][0]);
            Check.same("41: other of " + k, x.violation(0, k, 1), due[k][1] < 0 ? -1 : first + due[k][1]);
        }
        Check.noIndex(x, "41: no more", () -> x.violation(0, 7, 0));
        x.erase(0, first);
        Check.same("41: of the layout as it is", x.check(0), 4);
        Check.same("41: of the layout as it is", x.violation(0, 2, 0) * 1000 + x.violation(0, 2, 1), first * 1000 + first + 2);
    }

    private static void eraseAll(ChipFlow x) {
        for (int b = x.box(0, -1, 0) - 1; b >= 0; b--) {
            x.erase(0, b);
        }
    }

    /** 40, 41: violations of the first box and of the last, each asked for without another call before. */
    private static void firstAndLastBox() {
        ChipFlow x = Check.drawn();
        eraseAll(x);
        x.add(0, 0, 0, 0, 1, 9);
        Check.same("41: thin, the first box", x.violation(0, 0, 0), 0);
        Check.same("40: check", x.check(0), 1);
        x.add(0, 0, 20, 0, 29, 9);
        Check.same("41: still the first box", x.violation(0, 0, 0), 0);
        Check.noIndex(x, "41: no more", () -> x.violation(0, 1, 0));
        x.add(0, 0, 30, 0, 39, 9);
        Check.same("41: the last two boxes", x.violation(0, 1, 0) * 10 + x.violation(0, 1, 1), 12);
        x.add(0, 0, 2, 0, 11, 9);
        Check.same("41: the first and the last box", x.violation(0, 1, 0) * 10 + x.violation(0, 1, 1), 3);
        Check.same("41: the others behind them", x.violation(0, 2, 0) * 10 + x.violation(0, 2, 1), 12);
        x.erase(0, 0);
        Check.same("41: one less", x.violation(0, 0, 0) * 10 + x.violation(0, 0, 1), 1);
        Check.noIndex(x, "41: no more", () -> x.violation(0, 1, 0));
        x.erase(0, 1);
        Check.noIndex(x, "41: none", () -> x.violation(0, 0, 0));
        x.add(0, 0, 40, 0, 41, 1);
        Check.same("41: thin, the last box", x.violation(0, 0, 0), 2);
        Check.same("41: one of its own", x.violation(0, 0, 1), -1);
        Check.same("36: drawn anew", x.draw(0) > 0, true);
        Check.noIndex(x, "41: none", () -> x.violation(0, 0, 0));
    }

    /** SHORTS of every two pins side by side, covered by one box alone; every pin alone. */
    private static void everyPin() {
        String[] designs = {Check.PAIR, Check.COUNTER, "module m { reg r : 2 ; r <- r + 1@2 ; out y = r.0 ; out z = !r.1 ; }"};
        for (String design : designs) {
            ChipFlow x = Check.chip(design, Check.NAND);
            Model m = new Model(x, 0, 0, 0);
            x.place(0, 40);
            x.route(0, 0);
            x.draw(0);
            eraseAll(x);
            List<int[]> pins = m.pins();
            for (int[] p : pins) {
                x.add(0, 0, 4 * p[1] - 1, 4 * p[2] - 1, 4 * p[1] + 1, 4 * p[2] + 1);
                Check.same("42: a part with a pin", x.found(0, 3), pins.size());
                Check.same("42: none without", x.found(0, 4), 0);
                x.erase(0, 0);
                for (int[] q : pins) {
                    if (q[2] == p[2] && q[1] == p[1] + 1) {
                        x.add(0, 0, 4 * p[1], 4 * p[2], 4 * q[1], 4 * q[2] + 1);
                        Check.same("42: shorts", x.found(0, 1), p[0] == q[0] ? 0 : 1);
                        Check.same("42: parts", x.found(0, 3), pins.size() - 1);
                        x.erase(0, 0);
                    }
                }
            }
        }
    }

    /** A pin of a flop whose next value is tied: it has no net, but a part that has it is one with a pin. */
    private static void tiedPins() {
        ChipFlow x = Check.chip("module m { in a ; in b ; reg r : 6 ; r <- 42@6 ; out y = r.0 ; out z = a & b ; }", Check.NAND);
        Model m = new Model(x, 0, 0, 0);
        x.place(0, 30);
        x.route(0, 12);
        x.draw(0);
        eraseAll(x);
        int nets = 0;
        for (int[] pin : m.pins()) {
            nets += pin[0] >= 0 ? 1 : 0;
        }
        Check.same("42: without a box it is none", x.found(0, 3), nets);
        for (int e = 0; e < x.chip(0, 4); e++) {
            for (int k = 0; k < 4; k++) {
                int at = 4 * (1 + x.at(0, e, 0) + k);
                int y = 4 * (3 * x.at(0, e, 1) + 1);
                x.add(0, 0, at - 1, y - 1, at + 1, y + 1);
                boolean free = true;
                boolean tied = false;
                for (int[] pin : m.pins()) {
                    boolean here = 4 * pin[1] == at && 4 * pin[2] == y;
                    free &= !here;
                    tied |= here && pin[0] < 0;
                }
                Check.same("42: parts with a pin", x.found(0, 3), nets + (tied ? 1 : 0));
                Check.same("42: parts without", x.found(0, 4), free ? 1 : 0);
                Check.same("42: no matter for nets", x.found(0, 1), 0);
                x.erase(0, 0);
            }
        }
    }

    private static void found(ChipFlow x, int... due) {
        for (int what = 0; what < 5; what++) {
            Check.same("42: found " + what, x.found(0, what), due[what]);
        }
    }

    /** A pin joins all boxes of layer 0 in which its place is (edges count). */
    private static void pinsAtEdges() {
        // Input a of PAIR on 4 sites: box 1 is the nand's pin of it at 4, 4.
        for (int layer = 0; layer < 3; layer++) {
            for (int shift = 0; shift < 5; shift++) {
                ChipFlow x = Check.drawn();
                x.erase(0, 1);
                found(x, 0, 0, 1, 5, 0);
                int[][] boxes = {{2, 2, 4, 4}, {4, 4, 6, 6}, {2, 4, 4, 6}, {3, 2, 5, 3}, {5, 3, 6, 5}};
                int[] b = boxes[shift];
                x.add(0, layer, b[0], b[1], b[2], b[3]);
                if (layer == 0 && shift < 3) {
                    found(x, 1, 0, 0, 4, 0);
                } else {
                    // The via and the wire on layer 1 are still there; a box that joins these is no new part.
                    Check.same("42: still open", x.found(0, 2), 1);
                    Check.same("42: the pin alone", x.found(0, 3), 5);
                }
            }
        }
    }

    /** SHORTS: pairs of nets with pins in one part, each pair once; OPENS: nets with pins in more than one. */
    private static void shortsAndOpens() {
        ChipFlow x = Check.drawn();
        found(x, 1, 0, 0, 4, 0);
        // Inputs a and b at 0, 0 and 0, 4.
        x.add(0, 0, -1, 0, 0, 4);
        found(x, 0, 1, 0, 3, 0);
        // And their pins of the nand at 4, 4 and 8, 4: the same pair.
        x.add(0, 0, 4, 4, 8, 5);
        found(x, 0, 1, 0, 3, 0);
        // The nand's output at 12, 4, too: three pairs.
        x.add(0, 0, 8, 4, 12, 5);
        found(x, 0, 3, 0, 2, 0);
        x.add(0, 2, -1000, -1000, 1000, 1000);
        found(x, 0, 6, 0, 1, 0);
        eraseAll(x);
        x.add(0, 0, 0, 0, 1, 4);
        found(x, 0, 1, 4, 7, 0);
    }

    /** TO DRAW: rows of points with steps between, one alone, too; a net that is open has no box. */
    private static void drawnOnes() {
        String[] designs = {Check.PAIR, Check.COUNTER, "module m { in a ; in b ; reg r ; r <- r ; out y = b ; }",
            "module m { in a : 5 ; out y = a.0 & a.2 ; out z = a.1 | a.3 & a.4 ; out w = a == 9@5 ; }"};
        for (String design : designs) {
            ChipFlow x = Check.chip(design, Check.NAND);
            Model m = new Model(x, 0, 0, 0);
            int[] sites = {4, 20, 60};
            for (int w : sites) {
                if (x.place(0, w) > 0) {
                    x.route(0, 2);
                    List<int[]> due = new PlainRouter(m, 2).boxes();
                    Check.same("36: boxes", x.draw(0), due.size());
                    for (int b = 0; b < due.size(); b++) {
                        for (int what = 0; what < 5; what++) {
                            Check.same("37: box " + b, x.box(0, b, what), due.get(b)[what]);
                        }
                    }
                }
            }
        }
    }

    /** TO DRAW a chip without a net of two pins: no boxes. */
    private static void drawnNone() {
        ChipFlow x = Check.chip("module m { in a ; out y = 0@1 ; }", Check.NAND);
        x.place(0, 4);
        Check.same("33: no nets of two pins", x.route(0, 12), 0);
        Check.same("36: no boxes", x.draw(0), 0);
        Check.same("37: no boxes", x.box(0, -1, 0), 0);
        found(x, 1, 0, 0, 1, 0);
    }

    public static void main(String[] args) throws ReflectiveOperationException {
        numbersOfChips();
        whenUndrawn();
        numbersOfBoxes();
        boundsOfBoxes();
        fullLayout();
        tooManyToDraw();
        emptyLayout();
        thinOnes();
        nearOnes();
        orderOfViolations();
        firstAndLastBox();
        everyPin();
        tiedPins();
        pinsAtEdges();
        shortsAndOpens();
        drawnOnes();
        drawnNone();
        Check.finish("EdgeLayoutTest");
    }
}
