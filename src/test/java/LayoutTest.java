import java.util.HashSet;
import java.util.List;
import java.util.Set;

/** Promises 36 to 42: boxes drawn, added and erased, violations, the layout found again. */
public final class LayoutTest {
    private static void pair() {
        ChipFlow x = Check.chip(Check.PAIR, Check.NAND);
        Check.state("draw", () -> x.draw(0));
        Check.index("draw", () -> x.draw(1));
        x.place(0, 4);
        Check.state("draw", () -> x.draw(0));
        undrawn(x);
        x.route(0, 0);
        undrawn(x);
        int boxes = x.draw(0);
        Check.same("boxes", x.box(0, -1, 0), boxes);
        int[][] due = {{0, -1, -1, 5, 1}, {0, 3, 3, 5, 5}, {1, 3, -1, 5, 5}, {2, 3, -1, 5, 1}, {2, 3, 3, 5, 5},
            {0, -1, 3, 1, 5}, {0, 7, 3, 9, 5}, {0, -1, 7, 9, 9}, {1, -1, 3, 1, 9}, {1, 7, 3, 9, 9},
            {2, -1, 3, 1, 5}, {2, 7, 3, 9, 5}, {2, -1, 7, 1, 9}, {2, 7, 7, 9, 9}};
        for (int b = 0; b < due.length; b++) {
            for (int what = 0; what < 5; what++) {
                Check.same("box " + b + " " + what, x.box(0, b, what), due[b][what]);
            }
        }
        int[] found = {1, 0, 0, 4, 0};
        for (int what = 0; what < 5; what++) {
            Check.same("found " + what, x.found(0, what), found[what]);
        }
        Check.same("check", x.check(0), 0);
        Check.index("violation", () -> x.violation(0, 0, 0));
        Check.index("box", () -> x.box(0, boxes, 9));
        Check.index("box", () -> x.box(0, -2, 0));
        Check.argument("box", () -> x.box(0, 0, 5));
        Check.argument("box", () -> x.box(0, -1, 1));
        Check.argument("found", () -> x.found(0, 5));
        Check.argument("found", () -> x.found(0, -1));
        Check.index("found", () -> x.found(1, 5));
        Check.index("erase", () -> x.erase(0, boxes));
        Check.index("erase", () -> x.erase(0, -1));
        Check.same("drawn anew", x.draw(0), boxes);
    }

    private static void undrawn(ChipFlow x) {
        Check.state("box", () -> x.box(0, 0, 4));
        Check.state("box", () -> x.box(0, 100000, 0));
        Check.state("box", () -> x.box(0, -1, 0));
        Check.argument("box", () -> x.box(0, -1, 1));
        Check.argument("box", () -> x.box(0, 7, 5));
        Check.index("box", () -> x.box(0, -2, 5));
        Check.state("check", () -> x.check(0));
        Check.index("check", () -> x.check(3));
        Check.state("violation", () -> x.violation(0, 7, 1));
        Check.index("violation", () -> x.violation(0, -1, 0));
        Check.index("violation", () -> x.violation(0, 0, 2));
        Check.state("found", () -> x.found(0, 4));
        Check.argument("found", () -> x.found(0, 5));
        Check.state("erase", () -> x.erase(0, 7));
        Check.index("erase", () -> x.erase(0, -2));
        Check.state("add", () -> x.add(0, 0, 0, 0, 1, 1));
        Check.argument("add", () -> x.add(0, 3, 0, 0, 1, 1));
        Check.index("add", () -> x.add(1, 3, 0, 0, 1, 1));
    }

    private static void addAndErase() {
        ChipFlow x = Check.drawn();
        int boxes = x.box(0, -1, 0);
        int[][] wrong = {{-1, 0, 0, 1, 1}, {3, 0, 0, 1, 1}, {0, 1, 0, 1, 1}, {0, 0, 2, 1, 1}, {0, -1001, 0, 1, 1},
            {0, 0, -1001, 1, 1}, {0, 0, 0, 1001, 1}, {0, 0, 0, 1, 1001}};
        for (int[] w : wrong) {
            Check.argument("add", () -> x.add(0, w[0], w[1], w[2], w[3], w[4]));
        }
        Check.same("add", x.add(0, 2, -1000, -1000, 1000, 1000), boxes);
        Check.same("a via over all", x.found(0, 0), 0);
        Check.same("shorts: pairs of nets", x.found(0, 1), 6);
        Check.same("one part", x.found(0, 3), 1);
        Check.same("erase", x.erase(0, boxes), boxes);
        Check.same("right again", x.found(0, 0), 1);
        Check.same("erase", x.erase(0, 1), boxes - 1);
        Check.same("those behind have numbers one less", x.box(0, 1, 0), 1);
        // The nand's pin of input a has no box now.
        Check.same("opens", x.found(0, 2), 1);
        Check.same("parts with a pin", x.found(0, 3), 5);
        Check.same("right", x.found(0, 0), 0);
        Check.same("add", x.add(0, 0, 4, 4, 6, 6), boxes - 1);
        Check.same("edges count", x.found(0, 0), 1);
        Check.same("add", x.add(0, 1, 900, 900, 902, 902), boxes);
        Check.same("parts without a pin", x.found(0, 4), 1);
        Check.same("add", x.add(0, 2, 902, 902, 904, 904), boxes + 1);
        Check.same("joined at a corner", x.found(0, 4), 1);
        Check.same("add", x.add(0, 2, 903, 903, 905, 905), boxes + 2);
        Check.same("vias do not join", x.found(0, 4), 2);
        Check.same("add", x.add(0, 0, 905, 905, 907, 907), boxes + 3);
        Check.same("a via joins layer 0", x.found(0, 4), 2);
        Check.same("add", x.add(0, 0, 800, 800, 802, 802) + x.add(0, 1, 800, 800, 802, 802), 2 * boxes + 9);
        Check.same("layers without a via are apart", x.found(0, 4), 4);
    }

    private static void violations() {
        ChipFlow x = Check.drawn();
        int boxes = x.box(0, -1, 0);
        x.add(0, 0, 100, 100, 101, 110);   // thin in x
        x.add(0, 0, 102, 100, 110, 110);   // a gap of 1 to it
        x.add(0, 1, 112, 100, 120, 110);   // another layer
        x.add(0, 0, 112, 100, 120, 101);   // thin in y; a gap of 2
        x.add(0, 0, 111, 111, 113, 113);   // gaps 1 and 1 to the second; 0 and 10 to the one before
        x.add(0, 2, 200, 200, 202, 202);
        x.add(0, 2, 203, 203, 205, 205);   // gaps 1 and 1, on layer 2
        x.add(0, 0, 110, 110, 112, 112);   // touches the second at a corner
        Check.same("check", x.check(0), 5);
        int[][] due = {{boxes, -1}, {boxes + 3, -1}, {boxes, boxes + 1}, {boxes + 1, boxes + 4}, {boxes + 5, boxes + 6}};
        for (int k = 0; k < 5; k++) {
            for (int side = 0; side < 2; side++) {
                Check.same("violation " + k, x.violation(0, k, side), due[k][side]);
            }
        }
        Check.index("violation", () -> x.violation(0, 5, 0));
        Check.index("violation", () -> x.violation(0, -1, 0));
        Check.index("violation", () -> x.violation(0, 0, -1));
        Check.index("violation", () -> x.violation(0, 0, 2));
        x.erase(0, boxes);
        Check.same("as it is now", x.check(0), 3);
        Check.same("as it is now", x.violation(0, 0, 0), boxes + 2);
    }

    private static void tied() {
        // The flop's next value is tied: its pin has no net, and no box is a part of its own for it.
        ChipFlow x = Check.chip("module m { in a ; reg r ; r <- a & !a ; out y = r ; out z = a ; }", Check.NAND);
        x.place(0, 8);
        Check.same("route", x.route(0, 4), 0);
        x.draw(0);
        Check.same("parts", x.found(0, 3), 2);
        Check.same("right", x.found(0, 0), 1);
        int width = 4 * (1 + x.at(0, 0, 0));
        boolean free = x.point(0, 10 + 1 + x.at(0, 0, 0)) == -1;
        if (free) {
            x.add(0, 0, width - 1, 3, width + 1, 5);
            Check.same("a part with a pin", x.found(0, 3), 3);
            Check.same("none without", x.found(0, 4), 0);
            Check.same("no matter for nets", x.found(0, 0), 1);
        }
    }

    /** The parts of a layout, worked out by flooding. */
    private static void flooded(Model m) {
        ChipFlow x = m.x;
        int boxes = x.box(0, -1, 0);
        int[][] box = new int[boxes][5];
        for (int b = 0; b < boxes; b++) {
            for (int what = 0; what < 5; what++) {
                box[b][what] = x.box(0, b, what);
            }
        }
        int[] part = new int[boxes];
        int parts = 0;
        for (int b = 0; b < boxes; b++) {
            if (part[b] == 0) {
                parts++;
                flood(box, part, b, parts);
            }
        }
        List<int[]> pins = m.pins();
        Set<Integer> pinned = new HashSet<>();
        int[] pinPart = new int[pins.size()];
        int alone = 0;
        for (int p = 0; p < pins.size(); p++) {
            int[] place = {0, 4 * pins.get(p)[1], 4 * pins.get(p)[2], 4 * pins.get(p)[1], 4 * pins.get(p)[2]};
            for (int b = 0; b < boxes; b++) {
                if (box[b][0] == 0 && touch(box[b], place)) {
                    pinPart[p] = part[b];
                }
            }
            if (pinPart[p] > 0) {
                pinned.add(pinPart[p]);
            } else if (pins.get(p)[0] >= 0) {
                alone++;
                pinPart[p] = -1 - p;
            }
        }
        Set<Integer> shorts = new HashSet<>();
        Set<Integer> opens = new HashSet<>();
        for (int p = 0; p < pins.size(); p++) {
            for (int q = 0; q < pins.size(); q++) {
                int one = pins.get(p)[0];
                int two = pins.get(q)[0];
                if (one >= 0 && two > one && pinPart[p] == pinPart[q]) {
                    shorts.add(1000 * one + two);
                }
                if (one >= 0 && one == two && pinPart[p] != pinPart[q]) {
                    opens.add(one);
                }
            }
        }
        Check.same("right", x.found(0, 0), shorts.isEmpty() && opens.isEmpty() ? 1 : 0);
        Check.same("shorts", x.found(0, 1), shorts.size());
        Check.same("opens", x.found(0, 2), opens.size());
        Check.same("parts with a pin", x.found(0, 3), pinned.size() + alone);
        Check.same("parts without", x.found(0, 4), parts - pinned.size());
    }

    private static boolean touch(int[] a, int[] b) {
        return a[1] <= b[3] && b[1] <= a[3] && a[2] <= b[4] && b[2] <= a[4];
    }

    private static void flood(int[][] box, int[] part, int from, int number) {
        part[from] = number;
        for (int b = 0; b < box.length; b++) {
            boolean layers = box[b][0] == box[from][0] ? box[b][0] < 2 : box[b][0] == 2 || box[from][0] == 2;
            if (part[b] == 0 && layers && touch(box[b], box[from])) {
                flood(box, part, b, number);
            }
        }
    }

    private static void damaged() {
        ChipFlow x = Check.chip(Check.COUNTER, Check.LIBRARY);
        Model m = new Model(x, 0, 0, 0);
        x.place(0, 16);
        x.route(0, 12);
        x.draw(0);
        flooded(m);
        for (int k = 0; k < 30; k++) {
            if (k % 3 == 0) {
                x.erase(0, 7 * k * k % x.box(0, -1, 0));
            } else {
                int at = 37 * k % 60;
                x.add(0, k % 3, at, 11 * k % 40, at + 1 + k % 9, 11 * k % 40 + 1 + k % 7);
            }
            flooded(m);
        }
    }

    public static void main(String[] args) {
        pair();
        addAndErase();
        violations();
        tied();
        damaged();
        Check.finish("LayoutTest");
    }
}
