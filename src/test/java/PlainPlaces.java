import java.util.ArrayList;
import java.util.List;

/** Section 5 in its plainest form: the wire of a net, and every exchange of a pass tried with the whole chip's wire. */
final class PlainPlaces {
    private PlainPlaces() {
    }

    /** How many sites each element has. */
    static int[] sizes(Model m) {
        int[] size = new int[m.registers + m.gates];
        for (int e = 0; e < size.length; e++) {
            size[e] = e < m.registers ? 2 : m.gateInputs(e - m.registers) + 1;
        }
        return size;
    }

    /** Improves chip 0 and places of its own, and compares them: whether any place changed. */
    static boolean improve(Model m, int passes) {
        List<int[]> pins = m.pins();
        int[] size = sizes(m);
        int elements = size.length;
        int[] site = new int[elements];
        int[] row = new int[elements];
        for (int e = 0; e < elements; e++) {
            site[e] = m.x.at(0, e, 0);
            row[e] = m.x.at(0, e, 1);
        }
        boolean changed = true;
        boolean ever = false;
        for (int pass = 0; pass < passes && changed; pass++) {
            changed = false;
            for (int i = 0; i < elements; i++) {
                for (int j = i + 1; j < elements; j++) {
                    if (size[i] == size[j]) {
                        int before = whole(m, pins, size, site, row);
                        swap(site, row, i, j);
                        if (whole(m, pins, size, site, row) < before) {
                            changed = true;
                            ever = true;
                        } else {
                            swap(site, row, i, j);
                        }
                    }
                }
            }
        }
        int due = whole(m, pins, size, site, row);
        Check.same("31: its wire then", m.x.improve(0, passes), due);
        for (int e = 0; e < elements; e++) {
            Check.same("31: site of " + e, m.x.at(0, e, 0), site[e]);
            Check.same("31: row of " + e, m.x.at(0, e, 1), row[e]);
        }
        return ever;
    }

    private static void swap(int[] site, int[] row, int i, int j) {
        int s = site[i];
        site[i] = site[j];
        site[j] = s;
        int r = row[i];
        row[i] = row[j];
        row[j] = r;
    }

    private static int whole(Model m, List<int[]> pins, int[] size, int[] site, int[] row) {
        int at = 0;
        for (int e = 0; e < size.length; e++) {
            for (int k = 0; k < size[e]; k++) {
                pins.get(at)[1] = 1 + site[e] + k;
                pins.get(at)[2] = 3 * row[e] + 1;
                at++;
            }
        }
        int all = 0;
        for (int net = 0; net < m.nets; net++) {
            all += wire(pins, net);
        }
        return all;
    }

    /** A net's WIRE: width and height of the box around its pins. */
    static int wire(List<int[]> pins, int net) {
        List<int[]> own = new ArrayList<>();
        for (int[] pin : pins) {
            if (pin[0] == net) {
                own.add(pin);
            }
        }
        int x0 = own.get(0)[1];
        int x1 = x0;
        int y0 = own.get(0)[2];
        int y1 = y0;
        for (int[] pin : own) {
            x0 = Math.min(x0, pin[1]);
            x1 = Math.max(x1, pin[1]);
            y0 = Math.min(y0, pin[2]);
            y1 = Math.max(y1, pin[2]);
        }
        return x1 - x0 + y1 - y0;
    }
}
