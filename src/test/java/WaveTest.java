/** Promises 46 and 47: waves behind a change. */
public final class WaveTest {
    private static void pair() {
        ChipFlow x = Check.chip(Check.PAIR, Check.NAND);
        // The nand takes 4, the inverter 3.
        int[][] due = {{-1, 0, 0, 1, 0}, {0, 1, 1, 1, 0}, {3, 1, 1, 1, 0}, {4, 1, 1, 0, 0}, {6, 1, 1, 0, 0},
            {7, 1, 1, 0, 1}, {100000, 1, 1, 0, 1}};
        for (int[] row : due) {
            for (int net = 0; net < 4; net++) {
                Check.same("wave " + net + " at " + row[0], x.wave(0, 0, 3, net, row[0]), row[1 + net]);
            }
        }
        for (int net = 0; net < 4; net++) {
            Check.same("changes", x.changes(0, 0, 3, net), 1);
            Check.same("changes", x.changes(0, 1, 1, net), 0);
        }
        Check.same("rest", x.changes(0, 0, 3, -1), 7);
        Check.same("rest", x.changes(0, 1, 1, -1), 0);
        Check.same("only an input changes", x.changes(0, 0, 1, -1), 0);
        Check.same("an input", x.changes(0, 0, 1, 0), 1);
        Check.index("wave", () -> x.wave(0, 4, 0, 4, -2));
        Check.index("wave", () -> x.wave(0, 0, 0, -1, 0));
        Check.index("wave", () -> x.wave(1, 0, 0, 0, 0));
        Check.argument("wave", () -> x.wave(0, 4, 0, 0, 0));
        Check.argument("wave", () -> x.wave(0, 0, 4, 0, 0));
        Check.argument("wave", () -> x.wave(0, -1, 0, 0, 0));
        Check.argument("wave", () -> x.wave(0, 0, -1, 0, 0));
        Check.argument("wave", () -> x.wave(0, 0, 0, 0, -2));
        Check.argument("wave", () -> x.wave(0, 0, 0, 0, 100001));
        Check.index("changes", () -> x.changes(0, 4, 4, 4));
        Check.index("changes", () -> x.changes(0, 0, 0, -2));
        Check.index("changes", () -> x.changes(2, 0, 0, 0));
        Check.argument("changes", () -> x.changes(0, 4, 0, 0));
        Check.argument("changes", () -> x.changes(0, 0, 4, -1));
    }

    /** Every net at every time, by what section 9 tells. */
    static void stepped(Model m, int a, int b, int until) {
        int[] rest = m.values(a, -1);
        int[] then = m.values(b, -1);
        int[][] value = new int[m.nets][until];
        int last = 0;
        for (int n = 0; n < m.nets; n++) {
            int time = m.time(n);
            int changes = 0;
            for (int t = 0; t < until; t++) {
                if (n < m.first) {
                    value[n][t] = b >> n & 1;
                } else if (t < time) {
                    value[n][t] = rest[n];
                } else {
                    int state = 0;
                    for (int k = 0; k < m.gateInputs(n - m.first); k++) {
                        state |= value[m.input(n - m.first, k)][t - time] << k;
                    }
                    value[n][t] = m.x.cell(m.library, m.cell(n - m.first), 1) >> state & 1;
                }
                boolean changed = value[n][t] != (t == 0 ? rest[n] : value[n][t - 1]);
                changes += changed ? 1 : 0;
                last = changed ? Math.max(last, t) : last;
            }
            Check.same("changes of " + n, m.x.changes(0, a, b, n), changes);
            Check.same("before", m.x.wave(0, a, b, n, -1), rest[n]);
            Check.same("in the end", m.x.wave(0, a, b, n, 100000), then[n]);
            for (int t = 0; t < until; t += 1 + n % 3) {
                Check.same("wave of " + n, m.x.wave(0, a, b, n, t), value[n][t]);
            }
        }
        Check.same("rest", m.x.changes(0, a, b, -1), last);
    }

    private static void counter() {
        ChipFlow x = Check.chip(Check.COUNTER, Check.LIBRARY);
        Model m = new Model(x, 0, 0, 0);
        stepped(m, 0b00101, 0b11010, 120);
        stepped(m, 0b11111, 0b00100, 120);
        x.place(0, 16);
        stepped(m, 0b11111, 0b00100, 300);
        stepped(m, 0b01101, 0b10001, 300);
        x.alter(0, 0, x.gate(0, 0, 0));
        x.drop(1, 0);
        Check.library(x, Check.LIBRARY);
        stepped(m, 0b01101, 0b10001, 300);
    }

    /** A chain in which each stage hears both its neighbours before, so that changes grow without end. */
    private static void tooMany() {
        StringBuilder text = new StringBuilder("module st { in a ; in b ; in x ; out y = a ^ (b & x) ; } module ten { in a ; in b ; in x : 5 ; ");
        for (int k = 0; k < 24; k++) {
            String one = k == 0 ? "a" : "s" + (k - 1) + ".y";
            String two = k == 0 ? "b" : k == 1 ? "a" : "s" + (k - 2) + ".y";
            text.append("use s").append(k).append(" st ( ").append(one).append(" , ").append(two).append(" , x.")
                    .append(k % 5).append(" ) ; ");
        }
        text.append("out p = s23.y ; out q = s22.y ; } module m { in a ; in b ; in x : 5 ; in z : 5 ; "
                + "use t ten ( a , b , x ) ; use u ten ( t.p , t.q , z ) ; use v ten ( u.p , u.q , x ) ; out y = v.p ; out w = v.q ; }");
        ChipFlow x = Check.chip(text.toString(), "cell inv (a) = !a , 1 , 1 ; cell an (a,b) = !a & b , 3 , 3 ; "
                + "cell an1 (a,b) = !a & b , 3 , 59 ; cell an2 (a,b) = !a & b , 3 , 83 ; cell an3 (a,b) = !a & b , 3 , 100 ; "
                + "cell x0 (a,b) = a ^ b , 4 , 31 ; cell x1 (a,b) = a ^ b , 4 , 67 ; cell x2 (a,b) = a ^ b , 4 , 79 ; "
                + "cell x3 (a,b) = a ^ b , 4 , 97 ; cell and (a,b) = a & b , 4 , 3 ;");
        Model m = new Model(x, 0, 0, 0);
        for (int g = 0; g < m.gates; g++) {
            int cell = m.cell(g);
            if (cell == 1) {
                x.alter(0, g, 1 + g * g % 4);
            } else if (cell == 5) {
                x.alter(0, g, 5 + (g * g + g / 3) % 4);
            }
        }
        int last = m.nets - 1;
        Check.same("few changes", x.changes(0, 4092, 4092, last), 0);
        Check.room("too many changes", () -> x.changes(0, 4092, 4093, last));
        Check.room("too many changes", () -> x.changes(0, 4092, 4093, -1));
        Check.room("too many changes, of an input too", () -> x.wave(0, 4092, 4093, 0, 0));
        Check.argument("before that", () -> x.wave(0, 4096, 4093, 0, 0));
        Check.same("another wave of the same chip", x.changes(0, 0, 1, 0), 1);
        Check.room("and the first again", () -> x.wave(0, 4092, 4093, 0, 0));
    }

    public static void main(String[] args) {
        pair();
        counter();
        tooMany();
        Check.finish("WaveTest");
    }
}
