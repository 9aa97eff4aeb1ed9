/**
 * All that can be asked of a house without changing it, for tests that a refused call changed
 * nothing. What a tape holds and which state a chip is in cannot be asked so; tests of the calls
 * that touch these look at them on their own.
 */
final class Picture {
    private final ChipFlow x;
    private final StringBuilder all = new StringBuilder();

    private Picture(ChipFlow x) {
        this.x = x;
    }

    static String of(ChipFlow x) {
        Picture p = new Picture(x);
        p.put(x.tape());
        p.put(x.fault());
        p.witness();
        for (int k = 0; k < 6; k++) {
            p.put(x.isThere(0, k) ? 1 : 0);
            if (x.isThere(0, k)) {
                p.design(k);
            }
        }
        for (int k = 0; k < 3; k++) {
            p.put(x.isThere(1, k) ? 1 : 0);
            if (x.isThere(1, k)) {
                p.library(k);
            }
        }
        for (int k = 0; k < 4; k++) {
            p.put(x.isThere(2, k) ? 1 : 0);
            if (x.isThere(2, k)) {
                p.chip(k);
            }
        }
        return p.all.toString();
    }

    private void put(int answer) {
        all.append(answer).append(' ');
    }

    private void ask(Check.Call call) {
        all.append(Check.of(call)).append(' ');
    }

    private boolean isAnswered(Check.Call call) {
        String answer = Check.of(call);
        all.append(answer).append(' ');
        return !answer.startsWith("throws");
    }

    private void witness() {
        boolean more = true;
        for (int k = 0; more; k++) {
            int at = k;
            more = isAnswered(() -> x.witness(at));
        }
    }

    private void design(int d) {
        for (int what = 0; what < 8; what++) {
            put(x.graph(d, what));
        }
        put(x.state(d));
        int first = 1 + x.graph(d, 0) + x.graph(d, 1);
        int nodes = first + x.graph(d, 3);
        for (int n = 0; n < nodes; n++) {
            put(x.swept(d, n));
            if (n >= first) {
                put(x.literal(d, n, 0));
                put(x.literal(d, n, 1));
            }
        }
        for (int k = 0; k < x.graph(d, 2); k++) {
            put(x.root(d, k, false));
        }
        for (int k = 0; k < x.graph(d, 1); k++) {
            put(x.root(d, k, true));
        }
    }

    private void library(int l) {
        for (int k = -1; k < x.cell(l, -1, 0); k++) {
            for (int what = 0; what < 4; what++) {
                put(x.cell(l, k, what));
            }
        }
    }

    private void chip(int c) {
        for (int what = 0; what < 8; what++) {
            put(x.chip(c, what));
        }
        for (int g = 0; g < x.chip(c, 0); g++) {
            for (int what = 0; what < 5; what++) {
                put(x.gate(c, g, what));
            }
        }
        for (int k = 0; k < 22; k++) {
            int at = k;
            ask(() -> x.netOf(c, at, false));
            ask(() -> x.netOf(c, at, true));
        }
        if (x.chip(c, 5) > 0) {
            for (int e = 0; e < x.chip(c, 4); e++) {
                put(x.at(c, e, 0));
                put(x.at(c, e, 1));
            }
        }
        nets(c);
        layout(c);
        paths(c);
        set(c);
    }

    private void nets(int c) {
        for (int net = 0; net < x.chip(c, 1); net++) {
            int n = net;
            put(x.arrival(c, n, true));
            put(x.arrival(c, n, false));
            ask(() -> x.wire(c, n));
            for (int what = 0; what < 5; what++) {
                int w = what;
                ask(() -> x.routed(c, n, w));
            }
        }
        boolean more = true;
        for (int p = 0; more; p++) {
            int at = p;
            more = isAnswered(() -> x.point(c, at));
        }
    }

    private void layout(int c) {
        if (isAnswered(() -> x.box(c, -1, 0))) {
            for (int b = 0; b < x.box(c, -1, 0); b++) {
                for (int what = 0; what < 5; what++) {
                    put(x.box(c, b, what));
                }
            }
            for (int k = 0; k < Math.min(20, x.check(c)); k++) {
                put(x.violation(c, k, 0));
                put(x.violation(c, k, 1));
            }
            for (int what = 0; what < 5; what++) {
                put(x.found(c, what));
            }
        }
    }

    private void paths(int c) {
        for (int k = 0; k < 40 && x.path(c, k, -1) >= 0; k++) {
            for (int what = -3; what < x.path(c, k, -3); what++) {
                put(x.path(c, k, what));
            }
        }
    }

    private void set(int c) {
        for (int what = 0; what < 3; what++) {
            put(x.faults(c, what));
        }
        boolean more = x.faults(c, 2) >= 0;
        for (int k = 0; more; k++) {
            int at = k;
            more = isAnswered(() -> x.pattern(c, at));
        }
        for (int k = 0; x.faults(c, 2) >= 0 && x.suspect(c, k) >= 0; k++) {
            put(x.suspect(c, k));
        }
    }
}
