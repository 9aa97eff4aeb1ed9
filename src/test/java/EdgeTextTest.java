import java.util.Arrays;

/** Section 1: the faults of a design's text, 1 to 3 and 10 to 15: where, and which one is met first. */
public final class EdgeTextTest {
    /** All items and all forms of expressions, every width 1, so that any beginning of it has right widths. */
    private static final String ALL = "module b { in p ; in q : 1 ; out z = p & q ; } module e { out w = 1 @ 1 ; } "
            + "module a { in x ; reg r = 1 ; reg s ; let l : 1 = x | r ^ x & r == x + ! ! ( x ) ; use u b ( x , r . 0 ) ; "
            + "use v e ( ) ; r <- x ? ( u . z ) : u . z . 0 ; out y = l ? 1 @ 1 : x ? v . w : l ; }";
    private static final String B = "module b { in p ; in q : 2 ; let l = p ; reg g ; out z : 2 = 2@2 ; out w = p ; } "
            + "module c { use i b ( 1@1 , 1@2 ) ; out z = 1@1 ; } module a { in x ; in t : 2 ; in k : 3 ; reg r ; "
            + "use u b ( x , t ) ; use o c ( ) ; ";

    private static String join(String[] tokens, int count) {
        return String.join(" ", Arrays.copyOf(tokens, count));
    }

    /** An instance alone is 11 at it, whatever stands behind it. */
    private static boolean isInstance(String[] tokens, int at) {
        boolean named = tokens[at].equals("u") || tokens[at].equals("v");
        return named && !tokens[at - 1].equals("use");
    }

    /** 2 at a token: it cannot stand there. The word cell can stand nowhere in a design. */
    private static void wrongTokenEverywhere() {
        String[] tokens = ALL.split(" ");
        Texts.good(ALL);
        for (int k = 0; k < tokens.length; k++) {
            String before = k == 0 ? "" : join(tokens, k) + " ";
            boolean alone = k > 0 && isInstance(tokens, k - 1);
            Texts.faultAt(alone ? 11 : 2, alone ? before.length() - 2 : before.length(), before + "cell $");
        }
        Texts.fault(2, ALL + " ~cell");
    }

    /** 2 at the tape's length, if the text ends too early. */
    private static void endEverywhere() {
        String[] tokens = ALL.split(" ");
        for (int k = 1; k < tokens.length; k++) {
            String before = join(tokens, k);
            if (tokens[k - 1].equals("}")) {
                Texts.good(before);
            } else if (isInstance(tokens, k - 1)) {
                Texts.faultAt(11, before.length() - 1, before);
            } else {
                Texts.faultAt(2, before.length(), before);
                Texts.faultAt(2, before.length() + 7, before + " \n # ..");
            }
        }
        Texts.fault(2, "~");
        Texts.fault(2, " ~");
    }

    /** 1 is met as soon as the token before it is taken. */
    private static void wrongByteEverywhere() {
        String[] tokens = ALL.split(" ");
        for (int k = 0; k <= tokens.length; k++) {
            String before = join(tokens, k);
            Texts.faultAt(1, before.length(), before + "$");
            Texts.faultAt(1, before.length() + 1, before + " abcdefghijklm");
            Texts.faultAt(1, before.length() + 1, before + " 1234567");
        }
    }

    /** What may lack: : n (then 1), = NUMBER (then 0), arguments; what may not. */
    private static void whatMayLack() {
        Texts.good("module a{in x;out y=x;let z=x;reg r;}");
        Texts.good("module a{in x:1;out y:1=x;let z:1=x;reg r:1=0;}");
        Texts.fault(2, "module a{in x:~;}");
        Texts.fault(2, "module a{in x~=1;}");
        Texts.fault(2, "module a{in x;out y~;}");
        Texts.fault(2, "module a{in x;out y:1~;}");
        Texts.fault(2, "module a{in x;out y=~;}");
        Texts.fault(2, "module a{in x;let y~;}");
        Texts.fault(2, "module a{reg r=~;}");
        Texts.fault(2, "module a{reg r=1~@1;}");
        Texts.fault(2, "module a{reg r=~x;}");
        Texts.fault(2, "module a{reg r=0~:1;}");
        Texts.fault(2, "module a{reg r;r~=r;}");
        Texts.fault(2, "module a{reg r;r~:1<-r;}");
        Texts.fault(2, "module a{reg r;r<-~;}");
        Texts.fault(2, "module b{in p;}module a{in x;use u b~;}");
        Texts.fault(2, "module b{in p;in q;}module a{in x;use u b(x,~);}");
        Texts.fault(2, "module b{in p;}module a{in x;use u b(~,x);}");
        Texts.fault(2, "module b{in p;}module a{in x;use u b(x ~x);}");
        Texts.fault(2, "module b{in p;}module a{in x;use u ~(x);}");
        Texts.fault(2, "module b{in p;}module a{in x;use u ~in(x);}");
        Texts.fault(2, "module a{~;in x;out y=x;}");
        Texts.fault(2, "module a{in x;out y=x;}~}");
        Texts.fault(2, "module a{in x;out y=x;~module b{}}");
        Texts.fault(2, "~{in x;out y=x;}");
        Texts.fault(2, "module ~{in x;out y=x;}");
        Texts.fault(2, "module a ~in x;out y=x;}");
    }

    /** A DESIGN are MODULES, one at least, 16 at most. */
    private static void countOfModules() {
        Texts.fault(2, " # none\n~");
        Texts.good("module m{out y=1@1;}");
        Texts.good(Texts.many("module m%{out y=1@1;}", 16));
        Texts.fault(15, Texts.many("module m%{out y=1@1;}", 16) + "module ~m16{out y=1@1;}");
        Texts.fault(15, Texts.many("module m%{out y=1@1;}", 16) + "module ~m16$");
        Texts.fault(10, Texts.many("module m%{out y=1@1;}", 16) + "module ~m0$");
        Texts.fault(10, Texts.many("module m%{out y=1@1;}", 16) + "module ~m15{out y=1@1;}");
        Texts.fault(2, Texts.many("module m%{out y=1@1;}", 16) + "module ~in");
        Texts.fault(1, Texts.many("module m%{out y=1@1;}", 16) + "module ~abcdefghijklm");
    }

    private static String choices(int times) {
        return Texts.many("x?x:", times) + "x";
    }

    private static String parens(int times, String inside) {
        return Texts.many("(", times) + inside + Texts.many(")", times);
    }

    /** 3: 61 of ( and ? would be open; a ( to its ), a ? to the end of its expression. */
    private static void openOnes() {
        String head = "module a{in x;in t:2;out y=";
        Texts.good(head + parens(60, "x") + ";}");
        Texts.fault(3, head + Texts.many("(", 60) + "~(x");
        Texts.fault(3, head + Texts.many("(", 60) + "~($");
        Texts.good(head + choices(60) + ";}");
        Texts.fault(3, head + Texts.many("x?x:", 60) + "x~?x:x;}");
        Texts.fault(3, head + Texts.many("x?x:", 60) + "x~?$");
        Texts.good(head + parens(30, choices(30)) + ";}");
        Texts.fault(3, head + Texts.many("(", 30) + Texts.many("x?x:", 30) + "x~?x:x");
        Texts.fault(3, head + Texts.many("(", 30) + Texts.many("x?x:", 30) + "~(x");
        Texts.good(head + Texts.many("x?", 60) + "x" + Texts.many(":x", 60) + ";}");
        Texts.fault(3, head + Texts.many("x?", 60) + "x~?x");
    }

    private static void closedOnes() {
        String head = "module a{in x;in t:2;out y=";
        Texts.good(head + parens(60, "x") + "&" + parens(60, "x") + "==" + parens(60, "x") + ";}");
        Texts.good(head + "(" + choices(59) + ")|(" + choices(59) + ")^" + parens(60, "x") + ";}");
        // The ? in a middle part has ended at the : behind it, the one of the last part has not.
        Texts.good(head + "x?" + choices(59) + ":" + choices(59) + ";}");
        Texts.fault(3, head + "x?" + Texts.many("x?x:", 59) + "x~?x:x");
        Texts.fault(3, head + "x?" + choices(59) + ":" + Texts.many("x?x:", 59) + "x~?x:x");
        Texts.good(head + "x?" + parens(59, "x") + ":" + parens(59, "x") + ";}");
        Texts.fault(3, head + "x?x:" + Texts.many("(", 59) + "~(x");
        Texts.good(head + choices(60) + ";let z=" + choices(60) + ";let w=" + parens(60, "x") + ";}");
        Texts.good(head + parens(60, Texts.many("!", 200) + "x") + ";}");
    }

    /** The ( of a use does not count. */
    private static void openOnesOfUse() {
        String head = "module b{in p;in q;out z=p;}module a{in x;use u b(";
        Texts.good(head + parens(60, "x") + "," + choices(60) + ");out y=u.z;}");
        Texts.fault(3, head + "x," + Texts.many("(", 60) + "~(x");
        Texts.fault(3, head + Texts.many("x?x:", 60) + "x~?x:x");
    }

    /** At one token 1 is before 2, 2 before 3, these before the others. */
    private static void orderAtOneToken() {
        String head = "module a{in x;in t:2;out y=";
        Texts.fault(1, head + "x ~abcdefghijklm;}");
        Texts.fault(1, head + "x ~1234567;}");
        Texts.fault(2, head + Texts.many("(", 60) + "x~(x");
        Texts.fault(2, head + Texts.many("(", 60) + "x&~?x");
        Texts.fault(2, head + Texts.many("(", 60) + "~?x");
        Texts.fault(3, head + Texts.many("(", 60) + "t~?x:x");
        Texts.fault(13, head + Texts.many("(", 59) + "t~?x:x");
    }

    /** 10 at a NAME: it is told already in its module, by an item of any sort. */
    private static void toldTwice() {
        String[] items = {"in n ;", "out n = 1@1 ;", "let n = 1@1 ;", "reg n ;", "use n b ( ) ;"};
        for (String first : items) {
            for (String second : items) {
                String head = "module b { out z = 1@1 ; } module a { " + first + " " + second.substring(0, second.indexOf('n'));
                if (second.startsWith("in ")) {
                    head = "module b { out z = 1@1 ; } module a { " + first + " in ";
                }
                Texts.fault(10, head + "~n $");
                Texts.fault(10, head + "~n ; }");
            }
        }
        Texts.fault(10, "module a{out y=1@1;}module b{out y=1@1;}module ~a$");
        Texts.good("module n{in n;out y=n;}module b{in n;use m n(n);out y=m.y;}module y{in b;use n b(b);out y=n.y;}");
    }

    /** A NAME is told behind the ; of its item, a module behind its } . */
    private static void toldBehindItsItem() {
        Texts.fault(11, "module a{let n=~n;}");
        Texts.fault(11, "module a{out n=!(1@1&~n.0);}");
        Texts.fault(11, "module b{in p;out z=p;}module a{use u b(~u.z);}");
        Texts.fault(11, "module a{in x;use u ~a(x);}");
        Texts.fault(11, "module a{in x;use u ~b(x);}module b{in p;}");
        Texts.good("module a{in x;let n=x;out y=n;}");
        Texts.good("module a{in x;out y=x;out z=y.0;}");
    }

    /** 11 at a NAME in an expression: not told at all is looked at at once, its sort behind the next token. */
    private static void namesInExpressions() {
        Texts.fault(11, B + "out y=~nn$");
        Texts.fault(11, B + "out y=~nn.$");
        Texts.fault(11, B + "out y=~p;}");
        Texts.fault(11, B + "out y=~b;}");
        Texts.fault(11, B + "out y=~u;}");
        Texts.fault(11, B + "out y=~u)");
        Texts.fault(11, B + "out y=~u&x;}");
        Texts.fault(1, B + "out y=u~$");
        Texts.fault(11, B + "out y=~u.0;}");
        Texts.fault(11, B + "out y=~u.0$");
        Texts.fault(11, B + "out y=~u.9;}");
        Texts.fault(1, B + "out y=u.~$");
        Texts.fault(2, B + "out y=u.~;}");
        Texts.fault(2, B + "out y=u.~in;}");
        Texts.fault(2, B + "out y=x.~;}");
        Texts.fault(2, B + "out y=x.~out;}");
        Texts.fault(2, B + "out y=x.~.0;}");
        Texts.fault(11, B + "out y=~x.w;}");
        Texts.fault(11, B + "out y=~r.w$");
        Texts.fault(11, B + "out y=~x.nn$");
        Texts.good(B + "out y=u.w;}");
        Texts.good(B + "out y=x;out v=y;let l=v;out f=l;out h=r;}");
    }

    /** 11 at the NAME behind an instance's . : one of its outputs, looked at at once. */
    private static void namesBehindInstances() {
        String[] others = {"p", "q", "l", "g", "nn", "x", "b", "u"};
        for (String other : others) {
            Texts.fault(11, B + "out y=u.~" + other + "$");
            Texts.fault(11, B + "out y=u.~" + other + ";}");
        }
        Texts.fault(11, B + "out y=o.~i$");
        Texts.fault(11, B + "out y=o.~w;}");
        Texts.fault(1, B + "out y=u.w~$");
        Texts.good(B + "out y=o.z;}");
        Texts.good(B + "out y=u.z.0;out v=u.w.0;}");
        Texts.fault(2, B + "out y=u.z.~w;}");
        Texts.fault(2, B + "out y=u.z.~;}");
        Texts.fault(2, B + "out y=u.z.0~.0;}");
        Texts.fault(2, B + "out y=x.0~.0;}");
    }

    /** 11 at the NAME with which an item begins: a reg that has no <- yet, looked at at once. */
    private static void namesBeforeArrows() {
        String[] others = {"x", "t", "u", "b", "nn", "p", "g"};
        for (String other : others) {
            Texts.fault(11, B + "~" + other + "$");
            Texts.fault(11, B + "~" + other + "<-x;}");
        }
        Texts.good(B + "r<-x;out y=r;}");
        Texts.fault(11, B + "r<-x;~r$");
        Texts.fault(11, B + "r<-x;~r<-x;}");
        Texts.fault(11, B + "let n=x;~n<-x;}");
        Texts.fault(11, B + "out n=x;~n<-x;}");
        Texts.fault(11, "module a{~r<-1@1;reg r;}");
        Texts.good(B + "r<-!r;out y=r;}");
        Texts.fault(1, B + "r~$");
        Texts.fault(2, B + "r~;");
    }

    /** 11 at the MODULE of an instance: an earlier one. */
    private static void modulesOfInstances() {
        String[] others = {"a", "x", "u", "nn", "w"};
        for (String other : others) {
            Texts.fault(11, B + "use n ~" + other + "(x);}");
            Texts.fault(11, B + "use n ~" + other + "$");
        }
        Texts.good(B + "use n b(x,t);use m c();out y=n.w;}");
    }

    /** 12 at a NUMBER: a width that is not 1 .. 8, of each item, looked at at once. */
    private static void widths() {
        String[] items = {"in n:", "out n:", "let n:", "reg n:"};
        for (String item : items) {
            String rest = item.startsWith("in") || item.startsWith("reg") ? ";" : "=t;";
            for (int width = 0; width <= 10; width++) {
                String text = "module b{in t:" + Math.min(8, Math.max(1, width)) + ";" + item;
                if (width >= 1 && width <= 8) {
                    Texts.good(text + width + rest + "}module a{out y=1@1;}");
                } else {
                    Texts.faultAt(12, text.length(), text + width + rest + "}");
                    Texts.faultAt(12, text.length(), text + width + "$");
                }
            }
            Texts.fault(12, "module a{in t;" + item + "~999999" + rest);
        }
    }

    /** 12 at a value that does not fit its width: n first, the value behind the next token. */
    private static void values() {
        for (int width = 1; width <= 8; width++) {
            int most = (1 << width) - 1;
            Texts.good("module a{out y:" + width + "=" + most + "@" + width + ";}");
            Texts.good("module a{out y:" + width + "=0@" + width + ";}");
            Texts.fault(12, "module a{out y:" + width + "=~" + (most + 1) + "@" + width + ";}");
            Texts.fault(1, "module a{out y:" + width + "=" + (most + 1) + "@" + width + "~$");
        }
        Texts.fault(12, "module a{out y=~999999@8;}");
        Texts.fault(12, "module a{out y=1@~0$");
        Texts.fault(12, "module a{out y=1@~9$");
        Texts.fault(12, "module a{out y=999999@~9;}");
        Texts.fault(12, "module a{out y=0@~0;}");
        Texts.fault(2, "module a{out y=2~;}");
        Texts.fault(2, "module a{out y=2@~;}");
        Texts.fault(2, "module a{out y=2@~x;}");
        // The value is looked at behind its last token, the token that cannot stand there later.
        Texts.fault(12, "module a{out y=~2@1)");
    }

    /** 12 at a beginning that does not fit its width, looked at at once. */
    private static void beginnings() {
        for (int width = 1; width <= 8; width++) {
            int most = (1 << width) - 1;
            String head = "module b{reg r:" + width + "=";
            Texts.good(head + most + ";}module a{out y=1@1;}");
            Texts.good(head + "0;}module a{out y=1@1;}");
            Texts.fault(12, head + "~" + (most + 1) + ";}");
            Texts.fault(12, head + "~" + (most + 1) + "$");
        }
        Texts.good("module a{reg r=1;out y=r;}");
        Texts.fault(12, "module a{reg r=~2;}");
        Texts.fault(12, "module a{reg r:8=~999999;}");
    }

    /** 12 at a bit that is not below the width, looked at at once. */
    private static void bits() {
        for (int width = 1; width <= 8; width++) {
            String head = "module b{in p:" + width + ";out z:" + width + "=p;}module a{in x:" + width + ";use u b(x);out y=";
            Texts.good(head + "x." + (width - 1) + ";}");
            Texts.good(head + "x.0;}");
            Texts.good(head + "u.z." + (width - 1) + ";}");
            Texts.fault(12, head + "x.~" + width + ";}");
            Texts.fault(12, head + "x.~" + width + "$");
            Texts.fault(12, head + "u.z.~" + width + ";}");
            Texts.fault(12, head + "u.z.~" + width + "$");
        }
        Texts.fault(12, "module a{in x;out y=x.~999999;}");
    }

    /** 13 at & | ^ + ==, when both parts are there; a 1 behind them is met before. */
    private static void widthsOfOperators() {
        String[] operators = {"&", "|", "^", "+", "=="};
        for (String op : operators) {
            Texts.fault(13, B + "let n:2=t~" + op + "x;}");
            Texts.fault(13, B + "let n:2=x~" + op + "t)");
            Texts.fault(1, B + "let n:2=t" + op + "x~$");
            Texts.fault(11, B + "let n:2=t" + op + "~nn");
            Texts.good(B + "out n" + (op.equals("==") ? "" : ":2") + "=t" + op + "3@2;}");
            Texts.good(B + "out n=x" + op + "!x;}");
            Texts.fault(13, B + "let n=t" + op + "t~" + (op.equals("==") ? "&" : "==") + "k;}");
        }
        Texts.fault(13, B + "let n=t|x~&t;}");
        Texts.fault(13, B + "let n=t~&x|t;}");
        Texts.fault(13, B + "let n=t^t==t~+x;}");
        Texts.fault(13, B + "let n=(t~&x)|(t&x);}");
        Texts.fault(13, B + "let n=t~&(x|x);}");
        Texts.fault(13, B + "let n:2=t~&t==t;}");
        Texts.good(B + "out n:2=(t&t)+(t|t^t);out m=x&t==t|k==k;}");
    }

    /** 13 at ?: for its c at once, for a and b behind them. */
    private static void widthsOfChoices() {
        Texts.fault(13, B + "let n=t~?$");
        Texts.fault(13, B + "let n=(x|x)&(t~?x:x)");
        Texts.fault(13, B + "let n=t&t~?x:x;}");
        Texts.good(B + "out n=t==t?x:x;}");
        Texts.fault(13, B + "let n=x~?t:x;}");
        Texts.fault(13, B + "let n=x~?x:t)");
        Texts.fault(1, B + "let n=x?x:t~$");
        Texts.fault(2, B + "let n=x?t~;}");
        Texts.fault(13, B + "let n=x?x~?t:x:x;}");
        Texts.fault(13, B + "let n=x?t:x~?t:x;}");
        Texts.fault(13, B + "let n=x~?t:x?x:x;}");
        Texts.fault(13, B + "let n=x?t~&x:x;}");
        Texts.good(B + "out n:2=x?t:x?t:1@2;}");
    }

    /** & | ^ have the width of their parts, + too (without the carry), == has 1, ! that of its part, a bit 1. */
    private static void widthsOfResults() {
        String[][] rows = {{"t&t", "2"}, {"k^k", "3"}, {"t+t", "2"}, {"k+k", "3"}, {"k==k", "1"}, {"!k", "3"}, {"!!t", "2"},
            {"k.2", "1"}, {"u.z.1", "1"}, {"u.z", "2"}, {"x?k:k", "3"}, {"x?x:x", "1"}, {"5@7", "7"}, {"(t)", "2"}, {"t==t&x", "1"}};
        for (String[] row : rows) {
            int due = Integer.parseInt(row[1]);
            for (int width = 1; width <= 8; width++) {
                if (width == due) {
                    Texts.good(B + "out n:" + width + "=" + row[0] + ";}");
                } else {
                    Texts.fault(13, B + "out n:" + width + "~=" + row[0] + ";}");
                }
            }
        }
        Texts.fault(13, B + "out n:2=t~|k.0;}");
    }

    /** eq: one == of a sum; what stands behind it is no part of the expression, also at the end of a choice. */
    private static void secondSame() {
        Texts.fault(2, B + "let n=x==x~==x;}");
        Texts.fault(2, B + "let n=x?x:x==x~==x;}");
        Texts.fault(2, B + "let n=x?x==x~==x:x;}");
        Texts.fault(2, B + "let n=(x==x~==x);}");
        Texts.fault(2, B + "let n=(x?x:x?x:x==x~==x);}");
        Texts.fault(2, B + "use n b(x==x~==x,t);}");
        Texts.good(B + "out n=x==x&x==x|x==x^x==x;out m=(x==x)==x?x==x:x==x;}");
        Texts.good(B + "out n=x==(x==(x==x));out m=(x?x:x)==x;}");
        Texts.fault(2, B + "let n=x?x:x~:x;}");
        Texts.fault(2, B + "let n=x~:x;}");
        Texts.fault(2, B + "let n=x?x~)");
    }

    /** 13 at = or <-: the widths of both sides. */
    private static void widthsOfItems() {
        Texts.fault(13, B + "let n~=t;}");
        Texts.fault(13, B + "out n:3~=t;}");
        Texts.fault(13, B + "out n:2~=t==t;}");
        Texts.fault(13, B + "r~<-t;}");
        Texts.fault(13, B + "out n:1~=t)");
        Texts.fault(13, B + "r~<-t)");
        Texts.fault(1, B + "let n=t~$");
        Texts.fault(1, B + "r<-t~$");
        Texts.fault(13, B + "let n=k~&t;}");
        Texts.good(B + "out n:3=k;r<-k.2;}");
    }

    /** 13 at the first token of an argument. */
    private static void widthsOfArguments() {
        Texts.fault(13, B + "use n b(~t,t);}");
        Texts.fault(13, B + "use n b(x,~x);}");
        Texts.fault(13, B + "use n b(x,~!(x)&x;}");
        Texts.fault(13, B + "use n b(~(t),$");
        Texts.fault(13, B + "use n b(x,~1@1);}");
        Texts.fault(13, B + "use n b(~u.z);}");
        Texts.fault(1, B + "use n b(t~$");
        Texts.good(B + "use n b(!(x),u.z+1@2);out y=n.w;}");
    }

    /** 14 at the NAME of an instance, met at its ): not as many arguments as inputs, also none. */
    private static void countOfArguments() {
        Texts.fault(14, B + "use ~n b()$");
        Texts.fault(14, B + "use ~n b(x)$");
        Texts.fault(13, B + "use n b(~t)$");
        Texts.good(B + "use n b(x,t);out y=n.w;}");
        Texts.fault(14, B + "use ~n b(x,t,$");
        Texts.fault(14, B + "use ~n b(x,t,x);}");
        Texts.fault(13, B + "use n b(x,~x,x);}");
        Texts.fault(2, B + "use n b(x,t~;");
        Texts.fault(2, B + "use n b(x~;");
        Texts.fault(2, B + "use n b(~;");
        Texts.good(B + "use n c();out y=n.z;}");
        Texts.fault(14, B + "use ~n c(x)$");
        Texts.fault(14, B + "use ~n c(t)$");
        Texts.fault(14, B + "use ~n c(k,$");
        Texts.fault(13, B + "use n c(k~&t)");
        Texts.fault(11, B + "use n c(~nn)");
        Texts.fault(2, B + "use n c(k~;");
        Texts.fault(1, B + "use n c(k~$");
        Texts.fault(10, B + "use ~u b()");
    }

    /** 15 at a NAME: the 41st name of a module, of whatever sort. */
    private static void countOfNames() {
        String b = "module b{out z=1@1;}module a{";
        String all = b + Texts.many("in i%;", 8) + Texts.many("out o%=1@1;", 8) + Texts.many("let l%=1@1;", 8)
                + Texts.many("reg r%;", 4) + Texts.many("use u% b();", 11);
        String[] items = {"in ~n", "out ~n", "let ~n", "reg ~n", "use ~n"};
        Texts.good(all + "let n=i0;}");
        Texts.good(all + "use n b();}");
        for (String item : items) {
            Texts.fault(15, all + "let f=o1;" + item + "$");
            Texts.fault(15, all + "let f=o1;" + item + ";}");
            Texts.fault(10, all + "let f=o1;" + item.replace("~n", "~f") + "$");
            Texts.fault(10, all + "let f=o1;" + item.replace("~n", "~u0") + "$");
        }
        Texts.good(b + Texts.many("let l%=1@1;", 40) + "}module d{" + Texts.many("let l%=1@1;", 39) + "out y=l38;}");
        Texts.good(all + "r0<-i0;r1<-i1;r2<-i2;r3<-i3;let f=u0.z;}");
    }

    public static void main(String[] args) {
        wrongTokenEverywhere();
        endEverywhere();
        wrongByteEverywhere();
        whatMayLack();
        countOfModules();
        openOnes();
        closedOnes();
        openOnesOfUse();
        orderAtOneToken();
        toldTwice();
        toldBehindItsItem();
        namesInExpressions();
        namesBehindInstances();
        namesBeforeArrows();
        modulesOfInstances();
        widths();
        values();
        beginnings();
        bits();
        widthsOfOperators();
        widthsOfChoices();
        widthsOfResults();
        secondSame();
        widthsOfItems();
        widthsOfArguments();
        countOfArguments();
        countOfNames();
        Check.finish("EdgeTextTest");
    }
}
