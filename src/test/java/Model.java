import java.util.ArrayList;
import java.util.List;

/** A chip read back over the face, for tests that work out answers anew in the plainest way. */
final class Model {
    final ChipFlow x;
    final int chip;
    final int library;
    final int inputs;
    final int registers;
    final int outputs;
    final int gates;
    final int nets;
    final int first;

    Model(ChipFlow x, int chip, int design, int library) {
        this.x = x;
        this.chip = chip;
        this.library = library;
        inputs = x.graph(design, 0);
        registers = x.graph(design, 1);
        outputs = x.graph(design, 2);
        gates = x.chip(chip, 0);
        nets = x.chip(chip, 1);
        first = inputs + registers;
    }

    int cell(int gate) {
        return x.gate(chip, gate, 0);
    }

    int gateInputs(int gate) {
        return x.cell(library, cell(gate), 0);
    }

    int input(int gate, int k) {
        return x.gate(chip, gate, 1 + k);
    }

    int ends() {
        return outputs + registers;
    }

    int endNet(int end) {
        return end < outputs ? x.netOf(chip, end, false) : x.netOf(chip, end - outputs, true);
    }

    /** Pins as net, x, y; a pin without a net has net -1. */
    List<int[]> pins() {
        List<int[]> all = new ArrayList<>();
        for (int e = 0; e < registers + gates; e++) {
            int site = x.at(chip, e, 0);
            int y = 3 * x.at(chip, e, 1) + 1;
            if (e < registers) {
                all.add(new int[] {Math.max(-1, x.netOf(chip, e, true)), 1 + site, y});
                all.add(new int[] {inputs + e, 2 + site, y});
            } else {
                int gate = e - registers;
                for (int k = 0; k < gateInputs(gate); k++) {
                    all.add(new int[] {input(gate, k), 1 + site + k, y});
                }
                all.add(new int[] {first + gate, 1 + site + gateInputs(gate), y});
            }
        }
        for (int i = 0; i < inputs; i++) {
            all.add(new int[] {i, 0, i});
        }
        for (int i = 0; i < outputs; i++) {
            if (x.netOf(chip, i, false) >= 0) {
                all.add(new int[] {x.netOf(chip, i, false), x.chip(chip, 7) + 1, i});
            }
        }
        return all;
    }

    /** How many pins a net has, by its connections alone. */
    int pinsOn(int net) {
        int count = 1;
        for (int g = 0; g < gates; g++) {
            for (int k = 0; k < gateInputs(g); k++) {
                count += input(g, k) == net ? 1 : 0;
            }
        }
        for (int e = 0; e < ends(); e++) {
            count += endNet(e) == net ? 1 : 0;
        }
        return count;
    }

    int time(int net) {
        if (net < inputs) {
            return 0;
        }
        int own = net < first ? 3 : x.cell(library, cell(net - first), 3);
        int wire = x.chip(chip, 5) > 0 ? x.wire(chip, net) / 4 : 0;
        return own + pinsOn(net) - 1 + wire;
    }

    /** All nets for a pattern with a fault (-1: none), as section 10 tells them. */
    int[] values(int pattern, int fault) {
        int[] value = new int[nets];
        int pin = 2 * nets;
        for (int n = 0; n < nets; n++) {
            if (n < first) {
                value[n] = pattern >> n & 1;
            } else {
                int state = 0;
                for (int k = 0; k < gateInputs(n - first); k++) {
                    int bit = value[input(n - first, k)];
                    if (fault == pin || fault == pin + 1) {
                        bit = fault - pin;
                    }
                    state |= bit << k;
                    pin += 2;
                }
                value[n] = x.cell(library, cell(n - first), 1) >> state & 1;
            }
            if (fault >> 1 == n && fault >= 0) {
                value[n] = fault & 1;
            }
        }
        return value;
    }

    int faults() {
        int all = 2 * nets;
        for (int g = 0; g < gates; g++) {
            all += 2 * gateInputs(g);
        }
        return all;
    }

    boolean shows(int pattern, int fault) {
        int[] good = values(pattern, -1);
        int[] bad = values(pattern, fault);
        for (int e = 0; e < ends(); e++) {
            if (endNet(e) >= 0 && good[endNet(e)] != bad[endNet(e)]) {
                return true;
            }
        }
        return false;
    }
}
