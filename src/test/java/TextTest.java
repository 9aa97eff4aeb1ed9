/** Promises 1 to 8 and 55: the tape, texts and their faults, what is there. */
public final class TextTest {
    private static void fault(String text, int place, int code) {
        ChipFlow x = new ChipFlow();
        Check.same("design of " + text, Check.design(x, text), -1 - place);
        Check.same("fault of " + text, x.fault(), code);
        Check.same("tape behind " + text, x.tape(), 0);
        Check.same("design 0 behind " + text, x.isThere(0, 0), false);
    }

    /** The fault is at the first place of a mark in the text. */
    private static void faultAt(String text, String mark, int code) {
        fault(text, text.indexOf(mark), code);
    }

    private static void good(String text) {
        ChipFlow x = new ChipFlow();
        Check.same("design of " + text, Check.design(x, text), 0);
        Check.same("fault of " + text, x.fault(), 0);
    }

    private static void badLibrary(String text, int place, int code) {
        ChipFlow x = new ChipFlow();
        Check.same("library of " + text, Check.library(x, text), -1 - place);
        Check.same("fault of " + text, x.fault(), code);
        Check.same("tape behind " + text, x.tape(), 0);
    }

    private static void badLibraryAt(String text, String mark, int code) {
        badLibrary(text, text.indexOf(mark), code);
    }

    private static String many(String part, int times) {
        StringBuilder all = new StringBuilder();
        for (int k = 0; k < times; k++) {
            all.append(part.replace("%", String.valueOf(k)));
        }
        return all.toString();
    }

    private static void promise1() {
        ChipFlow x = new ChipFlow();
        Check.same("tape", x.tape(), 0);
        Check.same("fault", x.fault(), 0);
        Check.index("witness", () -> x.witness(0));
        for (int k = 0; k < 7; k++) {
            for (int kind = 0; kind < 3; kind++) {
                Check.same("isThere", x.isThere(kind, k), false);
            }
        }
    }

    private static void promises2And3() {
        ChipFlow x = new ChipFlow();
        // The bytes of "module a{out y=1@1;}", the highest of each number first.
        Check.same("feed", x.feed(0x6d6f6475, 0x6c652061, 0x7b6f7574, 0x20793d31, 0x40313b7d), 20);
        Check.same("tape", x.tape(), 20);
        Check.same("design", x.design(), 0);
        Check.same("tape is empty then", x.tape(), 0);
        Check.same("feed", x.feed(0x6d6f6475, 0x6c652061, 0x7b6f7574, 0x20793d31, 0x40313b7d), 20);
        Check.same("feed", x.feed(-1, -1, -1, -1, -1), 40);
        Check.argument("end below 0", () -> { x.end(-1); return 0; });
        Check.argument("end of too many", () -> { x.end(41); return 0; });
        Check.same("tape", x.tape(), 40);
        x.end(40);
        Check.same("tape", x.tape(), 40);
        x.end(20);
        Check.same("tape", x.tape(), 20);
        Check.same("design", x.design(), 1);
        x.end(0);
        ChipFlow full = new ChipFlow();
        for (int k = 0; k < 3276; k++) {
            full.feed(0x20202020, 0x20202020, 0x20202020, 0x20202020, 0x20202020);
        }
        Check.same("tape", full.tape(), 65520);
        Check.room("feed beyond 65536", () -> full.feed(0, 0, 0, 0, 0));
        Check.same("tape", full.tape(), 65520);
    }

    private static void promises4To8() {
        ChipFlow x = new ChipFlow();
        for (int k = 0; k < 6; k++) {
            Check.same("design", Check.design(x, Check.PAIR), k);
        }
        Check.feed(x, "module $");
        String before = Picture.of(x);
        Check.room("seventh design", () -> x.design());
        Check.same("nothing changed", Picture.of(x), before);
        Check.same("tape stays", x.tape(), 8);
        for (int k = 0; k < 3; k++) {
            x.end(0);
            Check.same("library", Check.library(x, Check.NAND), k);
        }
        Check.feed(x, "cell $");
        Check.room("fourth library", () -> x.library());
        Check.same("tape stays", x.tape(), 6);
        x.end(0);
        Check.same("chip", x.map(0, 1), 0);
        x.drop(0, 2);
        x.drop(0, 4);
        x.drop(1, 1);
        Check.same("isThere", x.isThere(0, 2), false);
        Check.same("isThere", x.isThere(0, 3), true);
        Check.same("isThere", x.isThere(1, 1), false);
        Check.same("a fault takes no number", Check.design(x, "?"), -1);
        Check.same("fault", x.fault(), 2);
        Check.same("the least number that is free", Check.design(x, Check.COUNTER), 2);
        Check.same("fault", x.fault(), 0);
        Check.same("isThere", x.isThere(0, 2), true);
        Check.same("fault of a library", Check.library(x, "cell c"), -7);
        Check.same("fault", x.fault(), 2);
        Check.same("library", Check.library(x, Check.LIBRARY), 1);
        // The chip keeps the cells that its library had.
        Check.index("alter", () -> x.alter(0, 0, 2));
        x.drop(0, 0);
        x.drop(1, 0);
        Check.same("chip stays", x.run(0, 3), 1);
        Check.same("isThere", x.isThere(2, 0), true);
        x.drop(2, 0);
        Check.same("isThere", x.isThere(2, 0), false);
        Check.index("drop of none", () -> { x.drop(2, 0); return 0; });
        Check.index("drop of none", () -> { x.drop(0, 6); return 0; });
        Check.index("drop of none", () -> { x.drop(1, -1); return 0; });
        Check.argument("drop of no kind", () -> { x.drop(3, 99); return 0; });
        Check.argument("drop of no kind", () -> { x.drop(-1, 0); return 0; });
        Check.argument("isThere of no kind", () -> x.isThere(3, 0));
        Check.same("isThere", x.isThere(0, -1), false);
        Check.same("isThere", x.isThere(1, 3), false);
        Check.same("isThere", x.isThere(2, 2147483647), false);
    }

    private static void tokens() {
        fault("", 0, 2);
        fault("  # all comment", 15, 2);
        fault("# one\n module # two", 19, 2);
        fault("module a { } ", 7, 22);
        faultAt("module a { in x ; out y = x < x ; }", "<", 1);
        faultAt("module a { in x ; out y = x - x ; }", "-", 1);
        faultAt("module a { in x ; out y = x \u0080 ; }", "\u0080", 1);
        faultAt("module a { in x : 1000000 ; out y = x ; }", "1000000", 1);
        faultAt("module a { in x : 000001 ; out y = x.9 ; }", "9", 12);
        faultAt("module a { in abcdefghijklm ; }", "abc", 1);
        good("module a{in abcdefghijkl;out y=!abcdefghijkl}".replace("}", ";}"));
        good("\tmodule _1 {\r\n in x2y;#in x2y;\n out y=x2y==!!x2y;}# end");
        faultAt("module module { }", "module {", 2);
        faultAt("module a { in cell ; }", "cell", 2);
        faultAt("module a { in x ; out y = reg ; }", "reg", 2);
        faultAt("module a { in x ; out y = x == x == x ; }", "== x ;", 2);
        faultAt("module a { in x ; out y = x ; } in", "in", 2, true);
        fault("module a { in x ; out y = x ;", 29, 2);
        faultAt("module a { in x out y = x ; }", "out", 2);
        faultAt("module a { in x ; let y ; }", "; }", 2);
    }

    private static void faultAt(String text, String mark, int code, boolean last) {
        fault(text, last ? text.lastIndexOf(mark) : text.indexOf(mark), code);
    }

    private static void depths() {
        String sixty = many("(", 60) + "x" + many(")", 60);
        good("module a { in x ; out y = " + sixty + " & " + sixty + " ; }");
        fault("module a { in x ; out y = (" + sixty + ") ; }", 26 + 60, 3);
        good("module a { in x ; out y = " + many("x ? x : ", 60) + "x ; }");
        fault("module a { in x ; out y = " + many("x ? x : ", 61) + "x ; }", 26 + 60 * 8 + 2, 3);
        fault("module a { in x : 2 ; out y = " + many("(", 60) + "x ? x : x", 30 + 60 + 2, 3);
        good("module b { in x ; out y = x ; } module a { in x ; use u b ( " + sixty + " ) ; out y = u.y ; }");
        good("module a { in x ; out y = " + many("x | x ^ x & x == x + (", 60) + "x" + many(")", 60) + " ; }");
    }

    private static void names() {
        faultAt("module a { in x ; out y = x ; } module a { }", "a { }", 10);
        faultAt("module a { in x ; reg x ; }", "x ; }", 10);
        faultAt("module a { in x ; out y = z $ ; }", "z", 11);
        faultAt("module a { in x ; let y = y ; }", "y ;", 11);
        faultAt("module a { in x ; x $", "x $", 11);
        faultAt("module a { reg r ; r <- r ; r $", "r $", 11);
        faultAt("module a { in x ; use u c ( x ) ; }", "c (", 11);
        faultAt("module a { in x ; use u a ( x ) ; }", "a ( x", 11);
        String b = "module b { in p ; let l = p ; out z : 2 = 2@2 ; } module a { in x ; use u b ( x ) ; out y = ";
        faultAt(b + "u ; }", "u ; }", 11);
        faultAt(b + "u $", "$", 1);
        faultAt(b + "u.0 ; }", "u.0", 11);
        faultAt(b + "u.l ; }", "l ; }", 11);
        faultAt(b + "u.q $", "q $", 11);
        faultAt(b + "x.z ; }", "x.z", 11);
        faultAt(b + "u.z.2 ; }", "2 ; }", 12, true);
        faultAt(b + "u.in ; }", "in ; }", 2);
        good(b + "u.z.1 ; }");
        good("module a { in x ; out y = x ; " + many("let n% = x ; ", 38) + "}");
        faultAt("module a { in x ; out y = x ; " + many("let n% = x ; ", 38) + "let q $", "q $", 15);
        faultAt("module a { in x ; out y = x ; " + many("let n% = x ; ", 38) + "let n5 $", "n5 $", 10);
        good(many("module m% { in x ; out y = x ; } ", 16));
        faultAt(many("module m% { in x ; out y = x ; } ", 16) + "module q $", "q $", 15);
        faultAt(many("module m% { in x ; out y = x ; } ", 16) + "module m3 $", "m3 $", 10);
    }

    private static void widths() {
        faultAt("module a { in x : 9 $", "9", 12);
        faultAt("module a { in x : 0 ; }", "0", 12);
        good("module a { in x : 8 ; out y : 8 = x ; }");
        faultAt("module a { reg r : 2 = 4 $", "4", 12);
        faultAt("module a { out y = 4@2 == 4@2 ; }", "4@2", 12);
        faultAt("module a { out y = 4@2$", "$", 1);
        faultAt("module a { out y = 4@9 $", "9", 12);
        faultAt("module a { in x : 2 ; out y = x.2 $", "2 $", 12);
        faultAt("module a { in x : 2 ; out y : 2 = x & 1@1 ; }", "&", 13);
        faultAt("module a { in x : 2 ; out y : 2 = x & 1@1 $", "$", 1);
        faultAt("module a { in x : 2 ; out y : 2 = x + x == 1@1 ; }", "==", 13);
        faultAt("module a { in x : 2 ; out y = x ? $", "?", 13);
        faultAt("module a { in x : 2 ; out y = x.0 ? x : x.1 ; }", "?", 13);
        faultAt("module a { in x : 2 ; out y = x ; }", "= x", 13);
        faultAt("module a { in x : 2 ; reg r ; r <- x ) }", "<-", 13);
        String b = "module b { in p ; in q : 2 ; out z = p ; } module c { out z = 1@1 ; } module a { in x ; ";
        faultAt(b + "use u b ( x , !x ) ; }", "!", 13);
        faultAt(b + "use u b ( x ) $", "u b", 14);
        faultAt(b + "use u b ( ) $", "u b", 14);
        faultAt(b + "use u b ( x , 1@2 , $", "u b", 14);
        faultAt(b + "use u b ( x ; }", "; }", 2, true);
        faultAt(b + "use u c ( 3@2 ) $", "u c", 14);
        faultAt(b + "use u c ( 3@2 , $", "u c", 14);
        good(b + "use u c ( ) ; use v b ( x , 3@2 ) ; out y = u.z & v.z ; }");
    }

    private static void machines() {
        String ten = "module t { in x ; " + many("use u% s ( x ) ; ", 10) + "out y = u0.y ; } ";
        String one = "module s { in x ; out y = x ; } ";
        good(one + ten + "module m { in x ; " + many("use u% t ( x ) ; ", 18) + "use v s ( x ) ; use w s ( x ) ; out y = x ; }");
        String much = one + ten + "module m { in x ; " + many("use u% t ( x ) ; ", 18) + many("use v% s ( x ) ; ", 3) + "}";
        faultAt(much, "m {", 20, true);
        String huge = one + many("module m% { in x ; " + many("use v s ( x ) ; ", 1) + "out y = x ; } ", 2);
        good(huge);
        StringBuilder deep = new StringBuilder(one.replace("s {", "m0 {"));
        for (int k = 1; k < 16; k++) {
            deep.append("module m").append(k).append(" { in x ; ");
            deep.append(many("use u% m" + (k - 1) + " ( x ) ; ", 38)).append("out y = x ; } ");
        }
        fault(deep.toString(), deep.lastIndexOf("m15"), 20);
        faultAt("module a { in x : 8 ; in z : 5 ; out y = x.0 ; }", "a", 21);
        faultAt("module a { reg x : 4 ; reg z : 3 ; out y = x.0 ; }", "a", 21);
        good("module a { in w : 6 ; reg x : 3 ; reg z : 3 ; out y = x.0 ; }");
        faultAt("module s { reg r : 4 ; out y = r.0 ; } module a { use p s ( ) ; use q s ( ) ; out y = p.y ; }", "a {", 21);
        faultAt("module a { in x ; let y = x ; }", "a", 22);
        faultAt("module a { in x ; out y : 8 = 0@8 ; out z : 8 = 1@8 ; out q = x ; }", "a", 22);
        good("module a { in x ; out y : 8 = 0@8 ; out z : 8 = 1@8 ; }");
        StringBuilder sums = new StringBuilder("module a { in x : 8 ; in z : 4 ; let s0 : 8 = x ; ");
        for (int k = 1; k < 20; k++) {
            sums.append("let s").append(k).append(" : 8 = s").append(k - 1).append(" + (x ^ ").append(k).append("@8) ; ");
        }
        String small = sums.substring(0, sums.indexOf("let s9"));
        good(small + "out y : 8 = s8 ; }");
        fault(sums + "out y : 8 = s19 ; }", 7, 23);
    }

    private static void libraries() {
        badLibrary("", 0, 2);
        badLibraryAt("module a { }", "module", 2);
        badLibraryAt("cell a (x) = x + x , 1 , 1 ;", "+", 2);
        badLibraryAt("cell a (x) = x ? x , 1 , 1 ;", "?", 2);
        badLibraryAt("cell a (x) = 1@1 , 1 , 1 ;", "1@1", 2);
        badLibraryAt("cell a ( ) = x , 1 , 1 ;", ") =", 2);
        badLibraryAt("cell a (x) = y $", "y", 11);
        badLibraryAt("cell a (x,y,x) = y $", "x)", 10);
        badLibraryAt("cell a (x,y,z,w $", "w", 15);
        badLibraryAt("cell a (x,y,z,x $", "x $", 10);
        badLibraryAt("cell a (x) = x , 1 , 1 ; cell a $", "a $", 10);
        badLibraryAt("cell a (x) = x , 1001 $", "1001", 12);
        badLibraryAt("cell a (x) = x , 0 $", "0", 12);
        badLibraryAt("cell a (x) = x , 1000 , 101 $", "101", 12);
        badLibraryAt("cell a (x) = x , 1 , 1", "", 2, true);
        badLibraryAt(many("cell a% (x) = x , 1 , 1 ; ", 12) + "cell q $", "q", 15);
        badLibraryAt(many("cell a% (x) = x , 1 , 1 ; ", 12) + "cell a7 $", "a7 $", 10);
        badLibrary("cell a (x) = " + many("(", 61) + "x", 13 + 60, 3);
        ChipFlow x = new ChipFlow();
        Check.same("twelve cells", Check.library(x, many("cell a% (x) = " + many("(", 60) + "x" + many(")", 60)
                + " , 1000 , 100 ; ", 12)), 0);
        Check.same("cells", x.cell(0, -1, 0), 12);
    }

    private static void badLibraryAt(String text, String mark, int code, boolean atEnd) {
        badLibrary(text, atEnd ? text.length() : text.indexOf(mark), code);
    }

    public static void main(String[] args) {
        promise1();
        promises2And3();
        promises4To8();
        tokens();
        depths();
        names();
        widths();
        machines();
        libraries();
        Check.finish("TextTest");
    }
}
