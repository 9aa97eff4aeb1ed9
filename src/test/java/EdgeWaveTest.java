/** Section 9 and promises 46 and 47: patterns and times at their bounds, no change, 20000 changes and one more. */
public final class EdgeWaveTest {
    private static final int LEAST = -2147483648;
    private static final int MOST = 2147483647;
    private static final int[] NO_CHIPS = {LEAST, -1, 1, 4, MOST};

    /** 46, 47: no such chip, net; then patterns and time. */
    private static void numbers() {
        ChipFlow x = Check.chip(Check.PAIR, Check.NAND);
        int[] noNets = {LEAST, -2, 4, MOST};
        for (int net : noNets) {
            Check.noIndex(x, "46: net " + net, () -> x.wave(0, 0, 0, net, 0));
            Check.noIndex(x, "46: net " + net + " before patterns", () -> x.wave(0, 4, 4, net, -2));
            Check.noIndex(x, "47: net " + net, () -> x.changes(0, 0, 0, net));
            Check.noIndex(x, "47: net " + net + " before patterns", () -> x.changes(0, -1, 4, net));
        }
        Check.noIndex(x, "46: net NONE", () -> x.wave(0, 0, 0, -1, 0));
        for (int c : NO_CHIPS) {
            Check.noIndex(x, "46: chip " + c, () -> x.wave(c, 4, 0, 0, 0));
            Check.noIndex(x, "47: chip " + c, () -> x.changes(c, 4, 0, 0));
        }
        int[] patterns = {LEAST, -1, 4, MOST};
        for (int p : patterns) {
            Check.noArgument(x, "46: a " + p, () -> x.wave(0, p, 0, 0, 0));
            Check.noArgument(x, "46: b " + p, () -> x.wave(0, 0, p, 0, 0));
            Check.noArgument(x, "47: a " + p, () -> x.changes(0, p, 0, 0));
            Check.noArgument(x, "47: b " + p, () -> x.changes(0, 0, p, -1));
        }
        int[] times = {LEAST, -2, 100001, MOST};
        for (int t : times) {
            Check.noArgument(x, "46: time " + t, () -> x.wave(0, 0, 3, 3, t));
        }
        Check.same("46: the least time", x.wave(0, 0, 3, 0, -1), 0);
        Check.same("46: time 0", x.wave(0, 0, 3, 0, 0), 1);
        Check.same("46: the last time", x.wave(0, 0, 3, 3, 100000), 1);
        Check.same("46: the largest patterns", x.wave(0, 3, 3, 3, 0), 1);
    }

    /** A pattern has the bits of the input, then those of the state: 0 to 12 of them. */
    private static void patterns() {
        for (int bits = 0; bits <= 12; bits++) {
            StringBuilder text = new StringBuilder("module m { ");
            for (int k = 0; k < bits; k++) {
                text.append(k >= bits - 3 ? "reg" : "in").append(" i").append(k).append(" ; ");
            }
            ChipFlow x = Check.chip(text + "out y = " + (bits == 0 ? "0@1" : "i" + (bits - 1)) + " ; }", Check.NAND);
            int all = 1 << bits;
            Check.same("47: nothing changes", x.changes(0, all - 1, all - 1, -1), 0);
            Check.noArgument(x, "47: a " + all, () -> x.changes(0, all, 0, -1));
            Check.noArgument(x, "47: b " + all, () -> x.changes(0, 0, all, -1));
            for (int net = 0; net < bits; net++) {
                Check.same("46: before", x.wave(0, 0, all - 1, net, -1), 0);
                Check.same("46: from time 0 on", x.wave(0, 0, all - 1, net, 0), 1);
                Check.same("47: once", x.changes(0, 0, all - 1, net), 1);
                Check.same("47: only those that differ", x.changes(0, 0, 1, net), net == 0 ? 1 : 0);
            }
        }
    }

    /** A gate's net has at time t what its cell tells of t - its time; before that what it had at rest. */
    private static void timeOfChange() {
        ChipFlow x = Check.chip("module m { in a ; in b ; out y = a == b ; out z = a ; }", "cell same (a,b) = !(a ^ b) , 1 , 100 ;");
        // The gate takes 100 and a pin.
        Check.same("46: a change before", x.wave(0, 0, 1, 2, 100), 1);
        Check.same("46: at its time", x.wave(0, 0, 1, 2, 101), 0);
        Check.same("46: at rest", x.wave(0, 1, 0, 2, 0), 0);
        Check.same("46: at rest", x.wave(0, 1, 0, 2, -1), 0);
        Check.same("47: rest", x.changes(0, 0, 1, -1), 101);
        Check.same("47: once", x.changes(0, 0, 1, 2), 1);
        Check.same("47: both inputs at once: nothing", x.changes(0, 0, 3, 2), 0);
        Check.same("47: the inputs changed at 0", x.changes(0, 0, 3, -1), 0);
        Check.same("47: nothing at all", x.changes(0, 2, 2, -1), 0);
    }

    /** A net may change and come back; the wave follows places and cells as they are. */
    private static void pulse() {
        ChipFlow x = Check.chip("module m { in a ; out y = a & !(a & a) ; reg r ; out z = a & !r ; r <- a ; }",
                "cell inv (a) = !a , 1 , 5 ; cell inw (a) = !a , 9 , 9 ; cell and (a,b) = a & b , 1 , 2 ;");
        // Nets a 0, r 1, inverter of r 2 (5 and a pin), AND 3 (2 and a pin).
        int[] nets = {0, 1, 2, 3};
        int[] due = {1, 1, 1, 2};
        for (int net : nets) {
            Check.same("47: changes of " + net, x.changes(0, 0, 3, net), due[net]);
        }
        int[][] values = {{-1, 0}, {0, 0}, {2, 0}, {3, 1}, {8, 1}, {9, 0}, {50, 0}};
        for (int[] v : values) {
            Check.same("46: the AND at " + v[0], x.wave(0, 0, 3, 3, v[0]), v[1]);
        }
        Check.same("47: rest", x.changes(0, 0, 3, -1), 9);
        x.alter(0, 0, 1);
        Check.same("47: a slower inverter", x.changes(0, 0, 3, -1), 13);
        x.place(0, 60);
        Check.same("47: longer wires", x.changes(0, 0, 3, -1) > 13, true);
    }

    /** Gates of three inputs, whose inputs change one by one and together. */
    private static void threeInputs() {
        ChipFlow x = Check.chip("module m { in a ; in b ; in c ; reg r ; out y = a & b | b & c | a & c ; out z = !(a & b | r) ; out w = a ? b : r ; }",
                "cell inv (a) = !a , 1 , 2 ; cell nand (a,b) = !(a & b) , 9 , 3 ; cell aoi (a,b,c) = !(a&b|c) , 1 , 5 ; "
                + "cell oai (a,b,c) = !((a|b)&c) , 1 , 4 ; cell mux (s,a,b) = s&a | !s&b , 1 , 7 ; cell nor (a,b,c) = !(a|b|c) , 1 , 9 ;");
        Model m = new Model(x, 0, 0, 0);
        int wide = 0;
        for (int g = 0; g < m.gates; g++) {
            wide += m.gateInputs(g) == 3 ? 1 : 0;
        }
        Check.same("22: gates of three inputs", wide > 2, true);
        for (int turn = 0; turn < 2; turn++) {
            for (int a = 0; a < 16; a++) {
                for (int b = 0; b < 16; b++) {
                    WaveTest.stepped(m, a, b, 60);
                }
            }
            x.place(0, 20);
        }
    }

    /** Two chains of sixteen stages; the inputs z lead nowhere and change once each, if they differ. */
    private static ChipFlow chains() {
        StringBuilder text = new StringBuilder("module st { in a ; in b ; in x ; out y = a ^ (b & x) ; } module ch { in a ; in b ; in x : 5 ; ");
        for (int k = 0; k < 16; k++) {
            String one = k == 0 ? "a" : "s" + (k - 1) + ".y";
            String two = k == 0 ? "b" : k == 1 ? "a" : "s" + (k - 2) + ".y";
            text.append("use s").append(k).append(" st ( ").append(one).append(" , ").append(two).append(" , x.").append(k % 5).append(" ) ; ");
        }
        text.append("out p = s15.y ; out q = s14.y ; } module m { in a ; in b ; in x : 5 ; in z : 5 ; use t ch ( a , b , x ) ; "
                + "use u ch ( t.p , t.q , x ) ; out y = u.p ; out w = u.q ; }");
        ChipFlow x = Check.chip(text.toString(), "cell inv (a) = !a , 1 , 1 ; cell an (a,b) = !a & b , 3 , 3 ; "
                + "cell an1 (a,b) = !a & b , 3 , 59 ; cell an2 (a,b) = !a & b , 3 , 83 ; cell an3 (a,b) = !a & b , 3 , 100 ; "
                + "cell x0 (a,b) = a ^ b , 4 , 31 ; cell x1 (a,b) = a ^ b , 4 , 67 ; cell x2 (a,b) = a ^ b , 4 , 79 ; "
                + "cell x3 (a,b) = a ^ b , 4 , 97 ; cell and (a,b) = a & b , 4 , 3 ;");
        for (int g = 0; g < x.chip(0, 0); g++) {
            int cell = x.gate(0, g, 0);
            if (cell == 1) {
                x.alter(0, g, 1 + g * g % 4);
            } else if (cell == 5) {
                x.alter(0, g, 5 + (g * g + g / 3) % 4);
            }
        }
        return x;
    }

    private static int allChanges(ChipFlow x, int a, int b) {
        int all = 0;
        for (int net = 0; net < x.chip(0, 1); net++) {
            all += x.changes(0, a, b, net);
        }
        return all;
    }

    private static void tooMany(ChipFlow x, int a, int b) {
        Check.noRoom(x, "46: too many changes", () -> x.wave(0, a, b, 0, -1));
        Check.noRoom(x, "46: of each net", () -> x.wave(0, a, b, x.chip(0, 1) - 1, 100000));
        Check.noRoom(x, "47: too many changes", () -> x.changes(0, a, b, 0));
        Check.noRoom(x, "47: too many changes", () -> x.changes(0, a, b, -1));
        Check.noIndex(x, "46: no net comes first", () -> x.wave(0, a, b, x.chip(0, 1), 0));
        Check.noArgument(x, "46: no such time comes first", () -> x.wave(0, a, b, 0, 100001));
        Check.noArgument(x, "47: no such pattern comes first", () -> x.changes(0, a, 4096, 0));
    }

    /** 46: all nets together change more than 20000 times. */
    private static void mostChanges() {
        ChipFlow x = chains();
        Check.same("47: 19999 changes", allChanges(x, 30, 127), 19999);
        for (int z = 0; z < 5; z++) {
            Check.same("47: and an input: 20000", allChanges(x, 30, 127 | 128 << z), 20000);
        }
        tooMany(x, 30, 127 | 128 | 256);
        tooMany(x, 30 | 2048, 127 | 512);
        Check.same("47: 20000 changes", allChanges(x, 22, 127), 20000);
        Check.same("46: the last net in the end", x.wave(0, 22, 127, x.chip(0, 1) - 1, 100000),
                x.wave(0, 127, 127, x.chip(0, 1) - 1, 0));
        tooMany(x, 22, 127 | 128);
        tooMany(x, 22 | 2048, 127);
        Check.same("47: as many with an input that stays", allChanges(x, 22 | 128, 127 | 128), 20000);
    }

    public static void main(String[] args) {
        numbers();
        patterns();
        timeOfChange();
        pulse();
        threeInputs();
        mostChanges();
        Check.finish("EdgeWaveTest");
    }
}
