/** Section 5 and promises 28 to 32: sites and rows at their bounds, moves that just can be, what goes. */
public final class EdgePlaceTest {
    private static final int LEAST = -2147483648;
    private static final int MOST = 2147483647;
    private static final int[] NO_CHIPS = {LEAST, -1, 1, 4, MOST};
    private static final String AND_ONLY = "cell and (a,b) = a & b , 2 , 1 ;";

    /** So many gates of three sites each, and nothing else. */
    private static ChipFlow ands(int gates) {
        StringBuilder text = new StringBuilder("module m { in a : 6 ; ");
        int made = 0;
        for (int i = 0; i < 6; i++) {
            for (int j = i + 1; j < 6 && made < gates; j++) {
                text.append("out y").append(made).append(" = a.").append(i).append(" & a.").append(j).append(" ; ");
                made++;
            }
        }
        return Check.chip(text.append("}").toString(), AND_ONLY);
    }

    private static void whats(ChipFlow x, int rows, int height, int sites) {
        Check.same("21: rows", x.chip(0, 5), rows);
        Check.same("21: H", x.chip(0, 6), height);
        Check.same("21: W", x.chip(0, 7), sites);
    }

    /** 28: W is not 4 .. 60. */
    private static void countOfSites() {
        ChipFlow x = ands(3);
        int[] wrong = {LEAST, -1, 0, 3, 61, MOST};
        for (int sites : wrong) {
            Check.noArgument(x, "28: " + sites + " sites", () -> x.place(0, sites));
        }
        whats(x, 0, 0, 0);
        Check.same("28: four sites", x.place(0, 4), 3);
        whats(x, 3, 11, 4);
        Check.same("28: sixty sites", x.place(0, 60), 1);
        whats(x, 1, 6, 60);
        for (int sites : wrong) {
            Check.noArgument(x, "28: " + sites + " sites", () -> x.place(0, sites));
        }
        for (int c : NO_CHIPS) {
            Check.noIndex(x, "28: chip " + c, () -> x.place(c, 4));
            Check.noIndex(x, "28: chip " + c + " before sites", () -> x.place(c, 3));
        }
    }

    /** 28: NONE (and nothing is done) if the rows would be more than 12. */
    private static void countOfRows() {
        for (int gates = 11; gates <= 14; gates++) {
            for (int sites = 4; sites <= 6; sites++) {
                ChipFlow x = ands(gates);
                int rows = sites < 6 ? gates : (gates + 1) / 2;
                Check.same("28: rows of " + gates + " on " + sites, x.place(0, sites), rows > 12 ? -1 : rows);
                whats(x, rows > 12 ? 0 : rows, rows > 12 ? 0 : Math.max(3 * rows + 2, gates), rows > 12 ? 0 : sites);
            }
        }
        ChipFlow x = ands(13);
        Check.same("28: thirteen rows", x.place(0, 5), -1);
        Check.state("29: no places", () -> x.at(0, 0, 0));
        x.place(0, 6);
        x.move(0, 12, 3, 6);
        x.route(0, 3);
        x.draw(0);
        x.add(0, 0, 0, 0, 9, 9);
        String before = Picture.of(x);
        Check.same("28: thirteen rows", x.place(0, 5), -1);
        Check.same("28: nothing is done", Picture.of(x), before);
    }

    /** An element stands behind the one before, or at the beginning of the next row if it does not end within W. */
    private static void endOfRow() {
        // Two flops (2 sites), an inverter (2), a nand (3), the nor (3).
        ChipFlow x = Check.chip("module m { in a ; in b ; reg r : 2 ; r <- (a & b) ? 1@2 : 2@2 ; out y = r.0 ; out z = !(a | b) ; }",
                "cell nand (a,b) = !(a & b) , 2 , 3 ; cell inv (a) = !a , 1 , 2 ; cell nor (a,b) = !(a|b) , 2 , 4 ;");
        int[] size = PlainPlaces.sizes(new Model(x, 0, 0, 0));
        for (int sites = 4; sites <= 20; sites++) {
            int rows = x.place(0, sites);
            int row = 0;
            int site = 0;
            for (int e = 0; e < size.length; e++) {
                if (site + size[e] > sites) {
                    row++;
                    site = 0;
                }
                Check.same("29: site of " + e + " on " + sites, x.at(0, e, 0), site);
                Check.same("29: row of " + e + " on " + sites, x.at(0, e, 1), row);
                site += size[e];
            }
            Check.same("28: rows", rows, row + 1);
        }
    }

    /** Rows are one at least; H is the greatest of 3 * rows + 2, the bits of inputs, those of outputs. */
    private static void heights() {
        int[][] due = {{1, 1, 5}, {5, 5, 5}, {6, 1, 6}, {1, 6, 6}, {12, 3, 12}, {2, 16, 16}, {12, 16, 16}, {12, 12, 12}};
        for (int[] row : due) {
            StringBuilder text = new StringBuilder("module m { ");
            for (int k = 0; k < row[0]; k++) {
                text.append("in i").append(k).append(" ; ");
            }
            ChipFlow x = Check.chip(text + Texts.many("out y% = i0 ; ", row[1]) + "}", Check.NAND);
            Check.same("28: rows are one at least", x.place(0, 4), 1);
            whats(x, 1, row[2], 4);
            Check.noIndex(x, "29: no elements", () -> x.at(0, 0, 0));
            Check.noIndex(x, "30: no elements", () -> x.move(0, 0, 0, 0));
            Check.same("31: nothing to exchange", x.improve(0, 4), x.wire(0, -1));
        }
        ChipFlow x = ands(4);
        x.place(0, 4);
        whats(x, 4, 14, 4);
    }

    /** 29: no such chip, element, then what, then no places. */
    private static void places() {
        ChipFlow x = ands(3);
        ChipFlow[] both = {x, ands(3)};
        both[1].place(0, 7);
        for (ChipFlow y : both) {
            int[] noElements = {LEAST, -1, 3, MOST};
            for (int e : noElements) {
                Check.noIndex(y, "29: element " + e, () -> y.at(0, e, 0));
                Check.noIndex(y, "29: element " + e + " before what", () -> y.at(0, e, 2));
                Check.noIndex(y, "30: element " + e, () -> y.move(0, e, 0, 0));
            }
            int[] whats = {LEAST, -1, 2, MOST};
            for (int what : whats) {
                Check.noArgument(y, "29: what " + what, () -> y.at(0, 0, what));
            }
            for (int c : NO_CHIPS) {
                Check.noIndex(y, "29: chip " + c, () -> y.at(c, 0, 0));
                Check.noIndex(y, "30: chip " + c, () -> y.move(c, 0, 0, 0));
                Check.noIndex(y, "31: chip " + c, () -> y.improve(c, 0));
                Check.noIndex(y, "32: chip " + c, () -> y.wire(c, -1));
            }
            int[] passes = {LEAST, -1, 0, 5, MOST};
            for (int p : passes) {
                Check.noArgument(y, "31: passes " + p, () -> y.improve(0, p));
            }
            int[] noNets = {LEAST, -2, 9, MOST};
            for (int net : noNets) {
                Check.noIndex(y, "32: net " + net, () -> y.wire(0, net));
            }
        }
        Check.noState(x, "29: no places", () -> x.at(0, 0, 0));
        Check.noState(x, "29: no places", () -> x.at(0, 2, 1));
        Check.noState(x, "30: no places", () -> x.move(0, 2, 0, 0));
        Check.noState(x, "30: no places, no such site either", () -> x.move(0, 2, -1, 99));
        Check.noState(x, "31: no places", () -> x.improve(0, 1));
        Check.noState(x, "31: no places", () -> x.improve(0, 4));
        Check.noState(x, "32: no places", () -> x.wire(0, -1));
        Check.noState(x, "32: no places", () -> x.wire(0, 8));
        Check.same("32: the last net", both[1].wire(0, 8) > 0, true);
    }

    private static void stays(ChipFlow x, int element, int site, int row) {
        String before = Picture.of(x);
        Check.same("30: " + element + " to " + site + ", " + row, x.move(0, element, site, row), false);
        Check.same("30: nothing changed", Picture.of(x), before);
    }

    private static void moves(ChipFlow x, int element, int site, int row) {
        x.route(0, 0);
        x.draw(0);
        Check.same("30: " + element + " to " + site + ", " + row, x.move(0, element, site, row), true);
        Check.same("29: site", x.at(0, element, 0), site);
        Check.same("29: row", x.at(0, element, 1), row);
        Check.state("30: wires go", () -> x.routed(0, 0, 0));
        Check.state("30: layout goes", () -> x.box(0, -1, 0));
        Check.same("50: tests stay", x.faults(0, 2) >= 0, true);
    }

    /** 30: all of its sites are there and free of others; its own place counts as free. */
    private static void moved() {
        ChipFlow x = Check.chip(Check.PAIR, Check.NAND);
        x.place(0, 9);
        x.tests(0);
        x.route(0, 0);
        x.draw(0);
        // The nand has sites 0 to 2, the inverter 3 and 4, of one row.
        int[] noRows = {LEAST, -1, 1, MOST};
        for (int row : noRows) {
            stays(x, 1, 3, row);
        }
        int[] noSites = {LEAST, -2, -1, 8, 9, MOST, MOST - 1};
        for (int site : noSites) {
            stays(x, 1, site, 0);
        }
        stays(x, 1, 2, 0);
        stays(x, 1, 1, 0);
        stays(x, 1, 0, 0);
        stays(x, 0, 1, 0);
        stays(x, 0, 4, 0);
        stays(x, 0, 7, 0);
        moves(x, 1, 3, 0);
        moves(x, 1, 4, 0);
        moves(x, 1, 3, 0);
        moves(x, 0, 5, 0);
        moves(x, 0, 6, 0);
        moves(x, 1, 0, 0);
        moves(x, 1, 1, 0);
        moves(x, 1, 4, 0);
        moves(x, 0, 1, 0);
        moves(x, 1, 7, 0);
        moves(x, 0, 4, 0);
        stays(x, 0, 5, 0);
        x.place(0, 4);
        moves(x, 0, 1, 0);
        stays(x, 0, 2, 0);
        moves(x, 1, 2, 1);
        stays(x, 1, 0, 0);
        stays(x, 0, 0, 1);
        stays(x, 0, 0, 2);
        moves(x, 0, 0, 0);
    }

    /** 31: wires and layout go, if any place changed. */
    private static void improvements() {
        String[] designs = {Check.COUNTER, EdgeChipTest.chains(30),
            "module m { in a : 4 ; in b : 4 ; reg r : 3 ; r <- 0@3 ; out s : 4 = a + b ; out e = a == b ; out k = r.1 ; }"};
        int kept = 0;
        int gone = 0;
        for (String design : designs) {
            for (int passes = 1; passes <= 4; passes++) {
                for (int sites = 17; sites <= 60; sites += 43) {
                    ChipFlow x = Check.chip(design, Check.LIBRARY);
                    Model m = new Model(x, 0, 0, 0);
                    if (x.place(0, sites) < 0) {
                        continue;
                    }
                    for (int turn = 0; turn < 6; turn++) {
                        x.route(0, 0);
                        x.draw(0);
                        boolean changed = PlainPlaces.improve(m, passes);
                        kept += changed ? 0 : 1;
                        gone += changed ? 1 : 0;
                        Check.same("31: wires", Check.of(() -> x.point(0, 0)).startsWith("throws"), changed);
                        Check.same("31: layout", Check.of(() -> x.check(0)).startsWith("throws"), changed);
                    }
                    for (int net = 0; net < m.nets; net++) {
                        Check.same("32: wire", x.wire(0, net), PlainPlaces.wire(m.pins(), net));
                    }
                }
            }
        }
        Check.same("31: some changed, some did not", kept > 0 && gone > 0, true);
    }

    /** 32: a net with one pin has no wire; NONE is the sum of all. */
    private static void wires() {
        ChipFlow x = Check.chip("module m { in a ; in b ; reg r ; r <- 1@1 ; out y = a ; out z = 0@1 ; }", Check.NAND);
        x.place(0, 10);
        Check.same("32: from X 0 to X 11", x.wire(0, 0), 11);
        Check.same("32: one pin", x.wire(0, 1), 0);
        Check.same("32: a register nobody hears", x.wire(0, 2), 0);
        Check.same("32: all", x.wire(0, -1), 11);
        x.place(0, 60);
        Check.same("32: from X 0 to X 61", x.wire(0, -1), 61);
    }

    public static void main(String[] args) {
        countOfSites();
        countOfRows();
        endOfRow();
        heights();
        places();
        moved();
        improvements();
        wires();
        Check.finish("EdgePlaceTest");
    }
}
