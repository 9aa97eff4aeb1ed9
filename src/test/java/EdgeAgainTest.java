import java.util.ArrayList;
import java.util.List;

/**
 * Numbers that are used again, and what is asked again behind a change: a design, library or
 * chip is the same in a place where another one was, and beside others, as in a new house.
 */
public final class EdgeAgainTest {
    private static final String SMALL = "module m { in a ; in b ; reg r ; r <- a ; out y = b ; }";
    private static final String[] DESIGNS = {Check.COUNTER, Check.PAIR, SMALL,
        "module m { in a : 3 ; in b : 3 ; reg r : 6 = 63 ; r <- r + 1@6 ; out s : 3 = a + b ; out e = a == b ; out t = r.5 ; }",
        "module m { out y = 1@1 ; }", "module m { reg r : 2 = 3 ; r <- r + 1@2 ; out y = r.1 ; out z = r == 2@2 ; }",
        "module m { in a : 5 ; out y = a.0 & a.2 ; out z = a.1 | a.3 & a.4 ; out w = a == 9@5 ; }"};

    /** Everything that is done with a chip, as far as the stage tells; what cannot be pictured is written down. */
    private static String use(ChipFlow x, int stage) {
        List<String> all = new ArrayList<>();
        all.add(Picture.of(x));
        int patterns = 1 << x.graph(0, 0) + x.graph(0, 1);
        if (stage > 0) {
            x.place(0, 24);
            all.add(Picture.of(x));
        }
        if (stage > 1) {
            x.route(0, 0);
            x.tests(0);
            all.add(Picture.of(x));
        }
        if (stage > 2) {
            x.draw(0);
            x.fails(0, 0, true);
            x.falsify(0, 0, 0);
            all.add(Picture.of(x));
        }
        for (int net = 0; net < x.chip(0, 1); net++) {
            all.add(x.wave(0, 0, patterns - 1, net, 8) + " " + x.changes(0, patterns - 1, 0, net));
        }
        for (int fault = 0; fault < x.faults(0, 0); fault++) {
            all.add(x.test(0, fault) + " " + x.shows(0, patterns - 1, fault));
        }
        for (int turn = 0; turn < 5; turn++) {
            all.add(x.run(0, turn % (1 << x.graph(0, 0))) + " " + x.play(0, turn % (1 << x.graph(0, 0))));
        }
        return String.join("\n", all);
    }

    private static ChipFlow house(ChipFlow x, String design, String library) {
        Check.same("5: library", Check.library(x, library), 0);
        Check.same("4: design", Check.design(x, design), 0);
        Check.same("20: map", x.map(0, 0), 0);
        return x;
    }

    private static void dropAll(ChipFlow x) {
        x.drop(0, 0);
        x.drop(1, 0);
        x.drop(2, 0);
    }

    /** 7: its number is free; what comes there then is new. 20: it has no places, wires, layout. */
    private static void usedAgain() {
        for (String first : DESIGNS) {
            for (String second : DESIGNS) {
                for (int stage = 0; stage < 4; stage++) {
                    if (stage == 3 && (first.contains("out y = 1@1") || second.contains("out y = 1@1"))) {
                        continue;
                    }
                    ChipFlow x = house(new ChipFlow(), first, Check.NAND);
                    use(x, stage);
                    dropAll(x);
                    house(x, second, Check.LIBRARY);
                    Check.same("21: no rows, H, W", x.chip(0, 5) + x.chip(0, 6) + x.chip(0, 7), 0);
                    Check.state("29: no places", () -> x.wire(0, -1));
                    Check.state("34: no wires", () -> x.point(0, 0));
                    Check.state("37: no layout", () -> x.box(0, -1, 0));
                    Check.state("51: no set", () -> x.pattern(0, 0));
                    String due = use(house(new ChipFlow(), second, Check.LIBRARY), stage);
                    Check.same("as in a new house", use(x, stage), due);
                }
            }
        }
    }

    /** 4, 5: a text with a fault leaves nothing behind for the next one. */
    private static void behindFaults() {
        String deep = "module m { in x : 6 ; in y : 6 ; out z = " + Texts.many("x.0 | x.1 ^ x.2 & x.3 == x.4 + (", 59)
                + "x.0 & x.1" + Texts.many(")", 59) + " ; }";
        String full = "module m { in x : 6 ; in y : 6 ; let k : 6 = x" + Texts.many("&y&x", 82) + " ; out z = "
                + Texts.many("x.0 | x.1 ^ x.2 & x.3 == x.4 + (", 59) + "x.0 & x.1" + Texts.many(")", 59) + " ; }";
        String[] faults = {full, full, full, full, "", "$", "module a { in x ; out y = " + Texts.many("x & (", 50), "cell",
            "module a { out y = 1@1 ; } module b { in x : 9", Check.NAND, "module a { reg r : 7 ; out y = r.0 ; }",
            "module s { in x : 8 ; } module a { in p : 8 ; use u s ( p", "module a { in x : 2 ; out y = x ? "};
        ChipFlow x = new ChipFlow();
        Check.same("4: the deep one", Check.design(x, deep), 0);
        ChipFlow alone = new ChipFlow();
        Check.design(alone, deep);
        for (int turn = 0; turn < 2; turn++) {
            for (String fault : faults) {
                Check.same("4: fault", Check.design(x, fault) < 0, true);
                if (fault.equals(full)) {
                    Check.same("6: full", x.fault(), 23);
                }
                Check.same("5: fault", Check.library(x, fault.equals(Check.NAND) ? "cell nand (a,b) = !(a" : fault) < 0, true);
                x.drop(0, 0);
                Check.same("4: good", Check.design(x, deep), 0);
                for (int what = 0; what < 8; what++) {
                    Check.same("9: as alone", x.graph(0, what), alone.graph(0, what));
                }
                Check.same("12: as alone", x.root(0, 0, false), alone.root(0, 0, false));
                Check.same("5: good", Check.library(x, Check.LIBRARY), 0);
                Check.same("13: cells", x.cell(0, -1, 0), 8);
                x.drop(1, 0);
            }
        }
    }

    /** Chips side by side: each answers as if it were alone, whichever was asked before. */
    private static void sideBySide() {
        ChipFlow both = new ChipFlow();
        Check.library(both, Check.LIBRARY);
        Check.design(both, Check.COUNTER);
        Check.design(both, "module m { in a : 2 ; reg r : 3 ; r <- a.0 ? r : r + 3@3 ; out y = a == 1@2 ; out z : 3 = !r ; }");
        both.map(0, 0);
        both.map(1, 0);
        ChipFlow[] alone = {new ChipFlow(), new ChipFlow()};
        for (int k = 0; k < 2; k++) {
            Check.library(alone[k], Check.LIBRARY);
            Check.design(alone[k], k == 0 ? Check.COUNTER
                    : "module m { in a : 2 ; reg r : 3 ; r <- a.0 ? r : r + 3@3 ; out y = a == 1@2 ; out z : 3 = !r ; }");
            alone[k].map(0, 0);
        }
        for (int turn = 0; turn < 3; turn++) {
            for (int pattern = 0; pattern < 32; pattern += 5) {
                for (int k = 0; k < 2; k++) {
                    for (int net = -1; net < alone[k].chip(0, 1); net++) {
                        Check.same("47: changes", both.changes(k, pattern, 31 - pattern, net),
                                alone[k].changes(0, pattern, 31 - pattern, net));
                        if (net >= 0) {
                            Check.same("46: wave", both.wave(k, pattern, 31, net, 9), alone[k].wave(0, pattern, 31, net, 9));
                            Check.same("48: test", both.test(k, net), alone[k].test(0, net));
                        }
                        Check.same("45: path", both.path(k, net + 1, -1), alone[k].path(0, net + 1, -1));
                    }
                }
            }
            for (int k = 0; k < 2; k++) {
                Check.same("28: place", both.place(k, 20), alone[k].place(0, 20));
                Check.same("33: route", both.route(k, turn), alone[k].route(0, turn));
                Check.same("36: draw", both.draw(k), alone[k].draw(0));
                Check.same("50: tests", both.tests(k), alone[k].tests(0));
            }
            for (int k = 0; k < 2; k++) {
                Check.same("42: found", both.found(k, 3), alone[k].found(0, 3));
                Check.same("40: check", both.check(k), alone[k].check(0));
                Check.same("54: shown", both.faults(k, 2), alone[k].faults(0, 2));
                Check.same("35: points", both.routed(k, turn, 0), alone[k].routed(0, turn, 0));
            }
        }
    }

    private static void timesAsDue(ChipFlow x, Model m, boolean[][] wrong) {
        TimeTest.allPaths(m, wrong);
        WaveTest.stepped(m, 0b00101, 0b11010, 200);
    }

    /** Paths and waves are of the chip as it is: behind place, move, improve, alter and falsify. */
    private static void askedAgain() {
        ChipFlow x = Check.chip(Check.COUNTER, Check.LIBRARY + " cell slow (a,b) = !(a & b) , 2 , 50 ;");
        Model m = new Model(x, 0, 0, 0);
        boolean[][] wrong = new boolean[m.first][m.ends()];
        timesAsDue(x, m, wrong);
        x.place(0, 30);
        timesAsDue(x, m, wrong);
        int before = x.wire(0, -1);
        Check.same("31: improve", x.improve(0, 1) < before, true);
        timesAsDue(x, m, wrong);
        int last = x.chip(0, 4) - 1;
        boolean moved = false;
        for (int site = 26; site >= 0 && !moved; site--) {
            moved = site != x.at(0, last, 0) && x.move(0, last, site, x.chip(0, 5) - 1);
        }
        Check.same("30: moved", moved, true);
        timesAsDue(x, m, wrong);
        for (int g = 0; g < m.gates; g++) {
            if (x.gate(0, g, 0) == 1) {
                x.alter(0, g, 8);
                timesAsDue(x, m, wrong);
                break;
            }
        }
        int first = x.path(0, 0, 0);
        int end = x.path(0, 0, -2);
        x.falsify(0, first, end);
        wrong[first][end] = true;
        timesAsDue(x, m, wrong);
        x.place(0, 60);
        timesAsDue(x, m, wrong);
    }

    public static void main(String[] args) {
        usedAgain();
        behindFaults();
        sideBySide();
        askedAgain();
        Check.finish("EdgeAgainTest");
    }
}
