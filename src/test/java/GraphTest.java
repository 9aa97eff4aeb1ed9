/** Promises 9 to 13: graphs, literals, what is swept, roots, cells. */
public final class GraphTest {
    private static void smallGraph() {
        ChipFlow x = new ChipFlow();
        Check.design(x, "module m { in a ; in b ; reg r = 1 ; r <- r ^ a ; "
                + "out y = a & b ; out z = !(b & a) ; out w = a ^ a ; out v = 1@1 ; }");
        int[] due = {2, 1, 4, 4, 2, 4, 2, 1};
        for (int what = 0; what < 8; what++) {
            Check.same("graph " + what, x.graph(0, what), due[what]);
        }
        // Nodes: a 1, b 2, r 3; r & !a 4, !r & a 5, their OR 6 turned, a & b 7.
        int[] low = {3, 2, 9, 2};
        int[] high = {6, 7, 11, 4};
        for (int k = 0; k < 4; k++) {
            Check.same("literal", x.literal(0, 4 + k, 0), low[k]);
            Check.same("literal", x.literal(0, 4 + k, 1), high[k]);
        }
        int[] roots = {14, 15, 0, 1};
        for (int k = 0; k < 4; k++) {
            Check.same("root", x.root(0, k, false), roots[k]);
        }
        Check.same("next root", x.root(0, 0, true), 13);
        for (int n = 0; n < 8; n++) {
            Check.same("swept", x.swept(0, n), 2 * n);
        }
        Check.argument("graph", () -> x.graph(0, 8));
        Check.argument("graph", () -> x.graph(0, -1));
        Check.index("graph", () -> x.graph(1, 8));
        Check.index("graph", () -> x.graph(-1, 0));
        Check.index("literal of an input", () -> x.literal(0, 3, 0));
        Check.index("literal of FALSE", () -> x.literal(0, 0, 0));
        Check.index("literal of none", () -> x.literal(0, 8, 0));
        Check.index("literal", () -> x.literal(0, 7, 2));
        Check.index("literal", () -> x.literal(0, 7, -1));
        Check.index("literal", () -> x.literal(3, 7, 0));
        Check.index("swept", () -> x.swept(0, 8));
        Check.index("swept", () -> x.swept(0, -1));
        Check.index("swept", () -> x.swept(1, 0));
        Check.index("root", () -> x.root(0, 4, false));
        Check.index("root", () -> x.root(0, 1, true));
        Check.index("root", () -> x.root(0, -1, true));
        Check.index("root", () -> x.root(5, 0, false));
    }

    private static void sumAndSame() {
        ChipFlow x = new ChipFlow();
        Check.design(x, "module m { in a : 2 ; in b : 2 ; out s : 2 = a + b ; out e = a == b ; }");
        // Bit 0: XOR 5 6 7, carry 8; bit 1: XOR 9 10 11, the sum 12 13 14, AND 15, AND 16, OR 17;
        // == finds all XORs again and joins them in 18.
        Check.same("ANDs", x.graph(0, 3), 14);
        Check.same("s.0", x.root(0, 0, false), 15);
        Check.same("s.1", x.root(0, 1, false), 29);
        Check.same("e", x.root(0, 2, false), 36);
        Check.same("carry of bit 0", x.literal(0, 8, 0) * 100 + x.literal(0, 8, 1), 206);
        Check.same("carry of bit 1", x.literal(0, 17, 0) * 100 + x.literal(0, 17, 1), 3133);
        Check.same("e", x.literal(0, 18, 0) * 100 + x.literal(0, 18, 1), 1422);
        Check.same("depth", x.graph(0, 4), 4);
        Check.same("swept ANDs: the last carry goes", x.graph(0, 5), 11);
    }

    private static void sweeping() {
        ChipFlow x = new ChipFlow();
        Check.design(x, "module m { in a ; in b ; let p = a & b ; let n = !a | !b ; let q = (a | b) & p ; "
                + "let r = !(a & !b) & a ; let c = (p & !q) ; let d = !(q | !p) ; out y = q ; out z = r & n ; "
                + "out o = !c ; out k = d ; }");
        // p 3; a | b is 4 turned, q 5 is p again; a & !b is 6, r 7 is p; c 8 is FALSE; z 9 is FALSE.
        int[] due = {0, 2, 4, 6, 8, 6, 12, 6, 0, 0};
        for (int n = 0; n < due.length; n++) {
            Check.same("swept " + n, x.swept(0, n), due[n]);
        }
        Check.same("nodes", x.graph(0, 3), 7);
        Check.same("ANDs of the swept graph", x.graph(0, 5), 1);
        ChipFlow turned = new ChipFlow();
        Check.design(turned, "module m { in a ; in b ; let p = a & b ; out y = !a | (a & !b) ; out z = p ; }");
        // a & !b is 4, !a | that is 5 turned, which is p.
        Check.same("the turned one", turned.swept(0, 5), 6);
        Check.same("root as it was made", turned.root(0, 0, false), 11);
        Check.same("ANDs of the swept graph", turned.graph(0, 5), 1);
    }

    private static void order() {
        ChipFlow x = new ChipFlow();
        Check.design(x, "module s { in i ; reg r : 2 = 2 ; r <- r + 1@2 ; out o : 2 = r ; } "
                + "module m { in a ; reg p = 1 ; use u s ( a & p ) ; reg q ; use v s ( q ) ; in b : 2 ; "
                + "out y : 2 = u.o ; out z = v.o.1 ; out w = p ; }");
        Check.same("inputs", x.graph(0, 0), 3);
        Check.same("registers", x.graph(0, 1), 6);
        // a 1, b 2 3, p 4, u.r 5 6, q 7, v.r 8 9.
        Check.same("y.0", x.root(0, 0, false), 10);
        Check.same("y.1", x.root(0, 1, false), 12);
        Check.same("z", x.root(0, 2, false), 18);
        Check.same("w", x.root(0, 3, false), 8);
        Check.same("p keeps its value", x.root(0, 0, true), 8);
        Check.same("q keeps its value", x.root(0, 3, true), 14);
        Check.same("beginning", x.graph(0, 7), 1 | 2 << 1 | 2 << 4);
        Check.same("reached", x.graph(0, 6), 4);
        Check.same("arguments first", x.literal(0, 10, 0) * 100 + x.literal(0, 10, 1), 208);
        ChipFlow y = new ChipFlow();
        Check.design(y, "module m { in c ; in a ; in b ; out y = c ? a : b ; out z = a | b ; }");
        Check.same("c & a", y.literal(0, 4, 0) * 100 + y.literal(0, 4, 1), 204);
        Check.same("!c & b", y.literal(0, 5, 0) * 100 + y.literal(0, 5, 1), 306);
        Check.same("a choice", y.root(0, 0, false), 13);
        Check.same("OR", y.root(0, 1, false), 15);
        Check.same("precedence", Check.design(y, "module m { in a ; in b ; in c ; "
                + "out y = a | b ^ c & a == b + c ; out z = a | (b ^ (c & (a == (b + c)))) ; "
                + "out w = !!a ? b : c ? a : b ; out v = a ? b : (c ? a : b) ; }"), 1);
        Check.same("levels", y.root(1, 0, false), y.root(1, 1, false));
        Check.same("choices to the right", y.root(1, 2, false), y.root(1, 3, false));
    }

    private static void cells() {
        ChipFlow x = new ChipFlow();
        Check.library(x, "cell buf (a) = a , 9 , 1 ; cell big (a) = !a , 3 , 2 ; cell inv (q) = !!!q , 2 , 100 ; "
                + "cell not (a) = !a , 2 , 4 ; cell aoi (a,b,c) = !(a&b|c) , 1000 , 5 ; cell x (a,b) = a ^ b , 4 , 6 ; "
                + "cell k (a,b,c) = a | b ^ b & c , 1 , 1 ; cell z (a,b) = a & !a , 1 , 1 ;");
        int[][] due = {{1, 2, 9, 1}, {1, 1, 3, 2}, {1, 1, 2, 100}, {1, 1, 2, 4}, {3, 7, 1000, 5}, {2, 6, 4, 6},
            {3, 174, 1, 1}, {2, 0, 1, 1}, {8, 2, 0, 0}};
        for (int k = 0; k < 9; k++) {
            for (int what = 0; what < 4; what++) {
                Check.same("cell " + k + " " + what, x.cell(0, k < 8 ? k : -1, what), due[k][what]);
            }
        }
        Check.index("cell", () -> x.cell(0, 8, 9));
        Check.index("cell", () -> x.cell(0, -2, 0));
        Check.index("cell", () -> x.cell(1, 0, 0));
        Check.argument("cell", () -> x.cell(0, 0, 4));
        Check.argument("cell", () -> x.cell(0, -1, -1));
        Check.library(x, "cell buf (a) = a , 1 , 1 ; cell nor (a,b) = !(a | b) , 1 , 1 ;");
        Check.same("no inverter", x.cell(1, -1, 1), -1);
    }

    public static void main(String[] args) {
        smallGraph();
        sumAndSame();
        sweeping();
        order();
        cells();
        Check.finish("GraphTest");
    }
}
