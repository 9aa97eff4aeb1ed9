import java.util.Arrays;

/** Section 1, a library's text and its faults; promises 5 and 13: cells, their functions, the inverter. */
public final class EdgeLibraryTest {
    private static final String ALL = "cell c ( a , b , d ) = a | b ^ ! ! ( d & a ) , 12 , 7 ; cell e ( a ) = ! a , 1000 , 100 ; "
            + "cell a ( c , e ) = ( c ) , 1 , 1 ;";

    private static String join(String[] tokens, int count) {
        return String.join(" ", Arrays.copyOf(tokens, count));
    }

    /** 2 at a token that cannot stand there, or at the tape's length; 1 before it. */
    private static void everyToken() {
        String[] tokens = ALL.split(" ");
        Texts.goodCells(ALL);
        for (int k = 0; k <= tokens.length; k++) {
            String before = k == 0 ? "" : join(tokens, k) + " ";
            Texts.faultOfCellsAt(2, before.length(), before + "module $");
            Texts.faultOfCellsAt(1, before.length(), before + "$");
            if (k > 0 && tokens[k - 1].equals(";")) {
                Texts.goodCells(before);
            } else {
                Texts.faultOfCellsAt(2, before.length(), before);
            }
        }
    }

    /** exp of the inputs, | ^ & ! ( ) alone. */
    private static void signsOfExpressions() {
        String[] others = {"==x", "+x", "?x:x", ".0", ".x", "@1", "=x", "<-x", ":1", "{x}", ";", ")", "x", "1", "!x", "(x)"};
        for (String other : others) {
            Texts.faultOfCellsAt(2, 12, "cell a(x)=x " + other + ",1,1;");
        }
        Texts.faultOfCells(2, "cell a(x)=~1@1,1,1;");
        Texts.faultOfCells(2, "cell a(x)=~,1,1;");
        Texts.faultOfCells(2, "cell a(x)=x&~,1,1;");
        Texts.faultOfCells(2, "cell a(x)=x&~|x,1,1;");
        Texts.faultOfCells(2, "cell a(x)=!~,1,1;");
        Texts.faultOfCells(2, "cell a(x)=(~),1,1;");
        Texts.faultOfCells(2, "cell a(x)=(x~,1,1;");
        Texts.faultOfCells(2, "cell a(x)=x~),1,1;");
    }

    /** 1 to 3 inputs; 15 at the 4th input's NAME. */
    private static void countOfInputs() {
        Texts.faultOfCells(2, "cell a(~)=x,1,1;");
        Texts.goodCells("cell a(x)=x,1,1;");
        Texts.goodCells("cell a(x,y)=x,1,1;");
        Texts.goodCells("cell a(x,y,z)=x,1,1;");
        Texts.faultOfCells(15, "cell a(x,y,z,~w)=x,1,1;");
        Texts.faultOfCells(15, "cell a(x,y,z,~w$");
        Texts.faultOfCells(2, "cell a(x,y,z,~)=x,1,1;");
        Texts.faultOfCells(2, "cell a(x,y,z,~in)=x,1,1;");
        Texts.faultOfCells(2, "cell a(x,~)=x,1,1;");
        Texts.faultOfCells(2, "cell a(~,x)=x,1,1;");
        Texts.faultOfCells(2, "cell a~=x,1,1;");
    }

    /** Cells, one at least, 12 at most; 15 at the 13th cell's NAME. */
    private static void countOfCells() {
        Texts.faultOfCells(2, "~");
        Texts.faultOfCells(2, " # none\n ~");
        Texts.goodCells("cell a(x)=x,1,1;");
        String twelve = Texts.many("cell a%(x)=x,1,1;", 12);
        Texts.goodCells(twelve);
        Texts.faultOfCells(15, twelve + "cell ~b(x)=x,1,1;");
        Texts.faultOfCells(15, twelve + "cell ~b$");
        Texts.faultOfCells(10, twelve + "cell ~a0$");
        Texts.faultOfCells(10, twelve + "cell ~a11$");
        Texts.faultOfCells(2, twelve + "cell ~(");
        Texts.faultOfCells(2, twelve + "~b");
    }

    /** 10 at a NAME told already: among cells, among the inputs of one cell. */
    private static void toldTwice() {
        Texts.faultOfCells(10, "cell a(x)=x,1,1;cell b(x)=x,1,1;cell ~a(x)=x,1,1;");
        Texts.faultOfCells(10, "cell a(x)=x,1,1;cell ~a$");
        Texts.faultOfCells(10, "cell a(x,~x)=x,1,1;");
        Texts.faultOfCells(10, "cell a(x,y,~x$");
        Texts.faultOfCells(10, "cell a(x,y,~y$");
        Texts.faultOfCells(10, "cell a(x,y,z,~z$");
        Texts.goodCells("cell a(a)=a,1,1;cell b(a,b)=a&b,1,1;cell x(a,b)=b,1,1;");
    }

    /** 11 at a NAME in exp that is no input of it, looked at at once. */
    private static void noInput() {
        Texts.faultOfCells(11, "cell a(x)=~y$");
        Texts.faultOfCells(11, "cell a(x)=~a,1,1;");
        Texts.faultOfCells(11, "cell a(x)=x,1,1;cell b(y)=~x,1,1;");
        Texts.faultOfCells(11, "cell a(x)=x,1,1;cell b(y)=~a,1,1;");
        Texts.faultOfCells(11, "cell a(x)=x,1,1;cell b(y,z)=y&!(z|~x),1,1;");
        Texts.faultOfCells(2, "cell a(x)=~in,1,1;");
    }

    /** 12 at AREA that is not 1 .. 1000, at DELAY that is not 1 .. 100, looked at at once. */
    private static void measures() {
        Texts.goodCells("cell a(x)=x,1,1;");
        Texts.goodCells("cell a(x)=x,1000,100;");
        Texts.faultOfCells(12, "cell a(x)=x,~0,1;");
        Texts.faultOfCells(12, "cell a(x)=x,~1001,1;");
        Texts.faultOfCells(12, "cell a(x)=x,~1001$");
        Texts.faultOfCells(12, "cell a(x)=x,~999999,1;");
        Texts.faultOfCells(12, "cell a(x)=x,1,~0;");
        Texts.faultOfCells(12, "cell a(x)=x,1,~101;");
        Texts.faultOfCells(12, "cell a(x)=x,1,~101$");
        Texts.faultOfCells(12, "cell a(x)=x,1,~000000;");
        Texts.faultOfCells(2, "cell a(x)=x,~x,1;");
        Texts.faultOfCells(2, "cell a(x)=x,1,~;");
        Texts.faultOfCells(2, "cell a(x)=x,1~;");
        Texts.faultOfCells(2, "cell a(x)=x,1,1~,");
    }

    /** 3: 61 ( of an expression would be open; the ( of a cell's inputs does not count. */
    private static void openOnes() {
        String open = Texts.many("(", 60);
        String shut = Texts.many(")", 60);
        Texts.goodCells("cell a(x)=" + open + "x" + shut + "&" + open + "x" + shut + ",1,1;");
        Texts.faultOfCells(3, "cell a(x)=" + open + "~(x");
        Texts.faultOfCells(3, "cell a(x)=" + open + "!~($");
        Texts.faultOfCells(2, "cell a(x)=" + open + "x~(x");
        Texts.goodCells("cell a(x)=" + Texts.many("x^x&x|(", 60) + "x" + shut + ",1,1;");
    }

    private static int function(String inputs, String exp) {
        ChipFlow x = new ChipFlow();
        Check.same("library", Check.library(x, "cell f(" + inputs + ")=" + exp + ",1,1;"), 0);
        return x.cell(0, 0, 1);
    }

    /** Its FUNCTION has bit s for state s (input k is bit k of s). */
    private static void functions() {
        Check.same("a", function("a", "a"), 0b10);
        Check.same("!a", function("a", "!a"), 0b01);
        Check.same("0", function("a", "a&!a"), 0);
        Check.same("1", function("a", "a|!a"), 0b11);
        Check.same("a of two", function("a,b", "a"), 0b1010);
        Check.same("b of two", function("a,b", "b"), 0b1100);
        Check.same("1 of two", function("a,b", "b|!b"), 0b1111);
        Check.same("a of three", function("a,b,c", "a"), 0xAA);
        Check.same("b of three", function("a,b,c", "b"), 0xCC);
        Check.same("c of three", function("a,b,c", "c"), 0xF0);
        Check.same("1 of three", function("a,b,c", "!(c&!c)"), 0xFF);
        Check.same("& before ^", function("a,b,c", "a^b&c"), 0xAA ^ 0xCC & 0xF0);
        Check.same("^ before |", function("a,b,c", "a|b^c"), 0xAA | 0xCC ^ 0xF0);
        Check.same("& before |", function("a,b,c", "a&b|c"), 0xAA & 0xCC | 0xF0);
        Check.same("( ) first", function("a,b,c", "(a|b)&c"), (0xAA | 0xCC) & 0xF0);
        Check.same("any number of !", function("a,b,c", "!!!(!a|!!b)&!c"), ~(~0xAA | 0xCC) & ~0xF0 & 0xFF);
        Check.same("from the left", function("a,b,c", "a^b^c^a^c"), 0xCC);
    }

    /** 13: of a cell, of all; no such library, cell; no such what. */
    private static void cells() {
        ChipFlow x = new ChipFlow();
        Check.library(x, "cell buf(a)=a,1,1;cell big(a)=!a,9,3;cell one(a)=!a,4,100;cell two(a)=!a,4,2;cell wide(a,b)=!a,1000,7;");
        int[][] due = {{5, 2, 0, 0}, {1, 2, 1, 1}, {1, 1, 9, 3}, {1, 1, 4, 100}, {1, 1, 4, 2}, {2, 5, 1000, 7}};
        for (int k = -1; k < 5; k++) {
            for (int what = 0; what < 4; what++) {
                Check.same("13: cell " + k + " " + what, x.cell(0, k, what), due[k + 1][what]);
            }
            int at = k;
            Check.noArgument(x, "13: what", () -> x.cell(0, at, -1));
            Check.noArgument(x, "13: what", () -> x.cell(0, at, 4));
        }
        int[] none = {-2147483648, -2, 5, 2147483647};
        for (int k : none) {
            Check.noIndex(x, "13: cell " + k, () -> x.cell(0, k, 0));
            Check.noIndex(x, "13: cell " + k + " before what", () -> x.cell(0, k, 4));
        }
        int[] nowhere = {-1, 1, 2, 3, 2147483647};
        for (int l : nowhere) {
            Check.noIndex(x, "13: library " + l, () -> x.cell(l, 0, 0));
            Check.noIndex(x, "13: library " + l + " before what", () -> x.cell(l, -1, 4));
        }
    }

    /** THE INVERTER has one input, turns it, and has the least area, of several the first; or there is none. */
    private static void inverters() {
        String[][] rows = {
            {"cell a(x)=x,1,1;", "-1"},
            {"cell a(x)=x&!x,1,1;", "-1"},
            {"cell a(x)=x|!x,1,1;", "-1"},
            {"cell a(x,y)=!x,1,1;", "-1"},
            {"cell a(x,y,z)=!x,1,1;", "-1"},
            {"cell a(x)=!x,1000,1;", "0"},
            {"cell a(x)=!x,2,1;cell b(x)=!x,2,1;", "0"},
            {"cell a(x)=!x,2,1;cell b(x)=!x,1,1;", "1"},
            {"cell a(x)=!x,1,1;cell b(x)=!x,2,1;", "0"},
            {"cell a(x,y)=!x,1,1;cell b(x)=x,1,1;cell c(x)=!x,7,1;cell d(x)=!x,6,1;cell e(x)=!x,6,1;", "3"},
            {Texts.many("cell a%(x)=x,1,1;", 11) + "cell i(x)=!x,5,5;", "11"}};
        for (String[] row : rows) {
            ChipFlow x = new ChipFlow();
            Check.library(x, row[0]);
            Check.same("13: inverter of " + row[0], x.cell(0, -1, 1), Integer.parseInt(row[1]));
        }
    }

    public static void main(String[] args) {
        everyToken();
        signsOfExpressions();
        countOfInputs();
        countOfCells();
        toldTwice();
        noInput();
        measures();
        openOnes();
        functions();
        cells();
        inverters();
        Check.finish("EdgeLibraryTest");
    }
}
