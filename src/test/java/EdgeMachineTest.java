/** Section 1, faults 20 to 23: how large the machine may be, which one is met first, and where. */
public final class EdgeMachineTest {
    private static final String ONE = "module s { in x ; out y = x ; } ";
    private static final String TEN = ONE + "module t { in x ; " + Texts.many("use u% s ( x ) ; ", 10) + "out y = u0.y ; } ";

    /** A machine of 18 instances of t, 11 each with theirs, and so many of s. */
    private static String instances(int more) {
        return TEN + "module ~m { in x ; " + Texts.many("use u% t ( x ) ; ", 18) + Texts.many("use v% s ( x ) ; ", more)
                + "out y = v0.y ; }";
    }

    /** 20: more than 200 instances, in all of its own and theirs. */
    private static void instancesInAll() {
        Texts.good(instances(1).replace("~", ""));
        Texts.good(instances(2).replace("~", ""));
        Texts.fault(20, instances(3));
        Texts.fault(20, instances(4));
    }

    private static void instancesOfOthers() {
        // Only those of the last module count; t's own ten, told five times, are not in it.
        Texts.good(TEN + Texts.many("module m% { in x ; use a t ( x ) ; out y = x ; } ", 5) + "module z { in x ; out y = x ; }");
        Texts.good(instances(3).replace("~", "") + " module z { in x ; use s0 s ( x ) ; out y = s0.y ; }");
        StringBuilder deep = new StringBuilder("module m0 { in x ; out y = x ; } ");
        for (int k = 1; k < 16; k++) {
            deep.append("module ").append(k == 15 ? "~" : "").append('m').append(k).append(" { in x ; ");
            deep.append(Texts.many("use u% m" + (k - 1) + " ( x ) ; ", 38)).append("out y = u37.y ; } ");
        }
        Texts.fault(20, deep.toString());
        StringBuilder chain = new StringBuilder("module m0 { in x ; out y = !x ; } ");
        for (int k = 1; k < 16; k++) {
            chain.append("module m").append(k).append(" { in x ; use u m").append(k - 1).append(" ( x ) ; out y = !u.y ; } ");
        }
        Texts.good(chain.toString());
        ChipFlow x = new ChipFlow();
        Check.design(x, chain.toString());
        Check.same("sixteen modules deep", x.root(0, 0, false), 2);
    }

    private static String bits(int inputs, int registers) {
        StringBuilder all = new StringBuilder("module ~m { ");
        for (int k = 0; k < inputs; k++) {
            all.append("in i").append(k).append(" ; ");
        }
        for (int k = 0; k < registers; k++) {
            all.append("reg r").append(k).append(" ; ");
        }
        return all.append("out y = 1@1 ; }").toString();
    }

    /** 21: more than 12 bits of inputs and registers together, or more than 6 bits of registers. */
    private static void bitsOfInputsAndRegisters() {
        for (int inputs = 0; inputs <= 14; inputs++) {
            for (int registers = 0; registers <= 8; registers++) {
                String text = bits(inputs, registers);
                if (registers <= 6 && inputs + registers <= 12) {
                    Texts.good(text.replace("~", ""));
                } else {
                    Texts.fault(21, text);
                }
            }
        }
        Texts.good("module m { in a : 8 ; in b : 4 ; out y = 1@1 ; }");
        Texts.fault(21, "module ~m { in a : 8 ; in b : 5 ; out y = 1@1 ; }");
        Texts.good("module m { in a : 6 ; reg b : 6 ; out y = 1@1 ; }");
        Texts.fault(21, "module ~m { in a : 7 ; reg b : 6 ; out y = 1@1 ; }");
        Texts.fault(21, "module ~m { reg b : 7 ; out y = 1@1 ; }");
    }

    private static void bitsOfInstances() {
        String s = "module s { in p : 8 ; reg r : 2 ; out y = r.0 ; } module q { use a s ( 0@8 ) ; reg r ; out y = r ; } ";
        Texts.good(s + "module m { use a q ( ) ; use b q ( ) ; out y = 1@1 ; }");
        Texts.fault(21, s + "module ~m { use a q ( ) ; use b q ( ) ; reg c ; out y = 1@1 ; }");
        Texts.fault(21, s + "module ~m { use a q ( ) ; use b q ( ) ; use c s ( 1@8 ) ; out y = 1@1 ; }");
        Texts.good(s + "module m { use a q ( ) ; use b s ( 0@8 ) ; reg c ; in i : 6 ; out y = 1@1 ; }");
        Texts.fault(21, s + "module ~m { use a q ( ) ; use b s ( 0@8 ) ; reg c ; in i : 7 ; out y = 1@1 ; }");
        // What is no part of the machine does not count.
        Texts.good(Texts.many("module n% { in a : 8 ; in b : 8 ; reg c : 8 ; out d : 8 = a ; out e : 8 = b ; out f : 8 = c ; } ", 15)
                + "module m { in i ; out y = i ; }");
    }

    /** 22: no bit of outputs, or more than 16. */
    private static void bitsOfOutputs() {
        Texts.fault(22, "module ~m { }");
        Texts.fault(22, "module ~m { in i ; reg r ; let l = i ; }");
        for (int outputs = 1; outputs <= 18; outputs++) {
            String text = "module ~m { " + Texts.many("out y% = 1@1 ; ", outputs) + "}";
            if (outputs <= 16) {
                Texts.good(text.replace("~", ""));
            } else {
                Texts.fault(22, text);
            }
        }
        Texts.good("module m { out y : 8 = 1@8 ; out z : 8 = 2@8 ; }");
        Texts.fault(22, "module ~m { out y : 8 = 1@8 ; out z : 7 = 2@7 ; out w : 2 = 3@2 ; }");
        // The outputs of an instance are none of the machine's.
        Texts.fault(22, ONE + "module ~m { in x ; use u s ( x ) ; }");
        Texts.good("module s { out a : 8 = 1@8 ; out b : 8 = 1@8 ; out c : 8 = 1@8 ; } module m { use u s ( ) ; out y = u.a.0 ; }");
    }

    /** Six ANDs for each & of x and y in turn, one for each pair of single bits. */
    static String ands(int wide, int single) {
        StringBuilder all = new StringBuilder("module m { in x : 6 ; in y : 6 ; out z : 6 = x");
        for (int k = 0; k < wide; k++) {
            all.append(k % 2 == 0 ? "&y" : "&x");
        }
        all.append(" ; ");
        for (int k = 0; k < single; k++) {
            all.append("let l").append(k).append(" = x.").append(k).append(" & x.").append(k == 5 ? 0 : k + 1).append(" ; ");
        }
        return all.append("}").toString();
    }

    /** 23: more than 1000 ANDs. */
    private static void andsInAll() {
        ChipFlow x = new ChipFlow();
        Check.same("996 ANDs", Check.design(x, ands(166, 0)), 0);
        Check.same("996 ANDs", x.graph(0, 3), 996);
        Check.same("1000 ANDs", Check.design(x, ands(166, 4)), 1);
        Check.same("1000 ANDs", x.graph(1, 3), 1000);
        Check.same("the last of them", x.literal(1, 12 + 1000, 0), 2 * 4);
        Check.same("the last of them", x.literal(1, 12 + 1000, 1), 2 * 5);
        Check.same("166 of them in a row", x.graph(1, 4), 166);
        Check.same("one AND a bit, swept", x.graph(1, 5), 6);
        Texts.faultAt(23, 7, ands(166, 5));
        Texts.faultAt(23, 7, ands(167, 0));
        Texts.faultAt(23, 7, ands(400, 0));
        Texts.good(ands(166, 4).replace("out z", "let k = x.0 & 1@1 & x.1 & 1@1 | 0@1 ; out z"));
    }

    private static void andsOfInstances() {
        String s = "module s { in x : 6 ; in y : 6 ; out z : 6 = x" + Texts.many("&y&x", 40) + " ; } ";
        // 480 ANDs each; the second one begins with what the first one ends with.
        String two = "module ~m { in x : 6 ; in y : 6 ; use a s ( x , y ) ; use b s ( a.z , y ) ; ";
        Texts.good(s + two.replace("~", "") + "out z : 6 = b.z & x & y & x & y & x & y ; }");
        Texts.fault(23, s + two + "out z : 6 = b.z & x & y & x & y & x & y & x ; }");
        // An instance with the same arguments finds all its ANDs again.
        Texts.good(s + "module m { in x : 6 ; in y : 6 ; " + Texts.many("use a% s ( x , y ) ; ", 30) + "out z : 6 = a29.z ; }");
    }

    /** Behind all these, at the last module's NAME; of several the least code. */
    private static void order() {
        String many = TEN + "module ~m { in a : 8 ; in b : 8 ; in x ; " + Texts.many("use u% t ( x ) ; ", 19) + "}";
        Texts.fault(20, many);
        Texts.fault(21, "module ~m { in a : 8 ; in b : 8 ; }");
        Texts.fault(21, "module ~m { reg a : 7 ; out b : 8 = 0@8 ; out c : 8 = 0@8 ; out d = 0@1 ; }");
        String ands = ands(167, 0).replace("out z", "let z");
        Texts.faultAt(22, 7, ands);
        Texts.faultAt(23, 7, ands(167, 0));
        Texts.fault(2, many.replace("~", "") + "~;");
        Texts.fault(22, "module a { out y = 1@1 ; } module ~b { }");
        Texts.good("module b { } module a { out y = 1@1 ; }");
    }

    public static void main(String[] args) {
        instancesInAll();
        instancesOfOthers();
        bitsOfInputsAndRegisters();
        bitsOfInstances();
        bitsOfOutputs();
        andsInAll();
        andsOfInstances();
        order();
        Check.finish("EdgeMachineTest");
    }
}
