import java.util.ArrayList;
import java.util.Arrays;
import java.util.List;
import java.util.PriorityQueue;
import java.util.TreeSet;

/** Section 6 in its plainest form, over a chip read back by a Model: all distances, then the way back. */
final class PlainRouter {
    private static final int FAR = 1 << 29;

    final int[] owner;
    final int[] open;
    /** Steps of each net as lower point * 10000 + the other one. */
    final List<TreeSet<Integer>> steps = new ArrayList<>();
    final int width;
    final int height;
    int roundsMade;
    int robbed;
    boolean endedAtOnce;
    boolean endedWithRobbed;
    private final int[] kept;
    private final int[][] pinPoints;

    PlainRouter(Model m, int rounds) {
        width = m.x.chip(m.chip, 7) + 2;
        height = m.x.chip(m.chip, 6);
        owner = new int[2 * width * height];
        kept = new int[2 * width * height];
        Arrays.fill(owner, -1);
        Arrays.fill(kept, -1);
        open = new int[m.nets];
        pinPoints = new int[m.nets][];
        for (int net = 0; net < m.nets; net++) {
            int n = net;
            steps.add(new TreeSet<>());
            pinPoints[n] = m.pins().stream().filter(p -> p[0] == n).mapToInt(p -> p[2] * width + p[1]).sorted().toArray();
            for (int p : pinPoints[n]) {
                kept[p] = n;
            }
        }
        List<Integer> row = new ArrayList<>();
        for (int net = 0; net < m.nets; net++) {
            if (pinPoints[net].length > 1) {
                row.add(net);
            }
        }
        row.sort((a, b) -> m.x.wire(m.chip, a) != m.x.wire(m.chip, b)
                ? m.x.wire(m.chip, a) - m.x.wire(m.chip, b) : a - b);
        for (int net : row) {
            connect(net, false);
        }
        makeRounds(row, rounds);
    }

    private void makeRounds(List<Integer> row, int rounds) {
        for (int round = 0; round < rounds; round++) {
            int first = -1;
            for (int k = row.size() - 1; k >= 0; k--) {
                first = open[row.get(k)] == 1 ? row.get(k) : first;
            }
            if (first < 0) {
                return;
            }
            roundsMade++;
            int before = robbed;
            if (!connect(first, true)) {
                endedAtOnce = true;
                endedWithRobbed = robbed > before;
                return;
            }
            for (int net : row) {
                if (open[net] == 1) {
                    connect(net, false);
                }
            }
        }
    }

    int openNets() {
        return Arrays.stream(open).sum();
    }

    /** The next points in the order in which a way back looks at them; -1 for one that is not there. */
    private int[] next(int p) {
        int layer = p / (width * height);
        int x = p % width;
        int y = p % (width * height) / width;
        return new int[] {layer == 0 && x > 0 ? p - 1 : -1, layer == 0 && x < width - 1 ? p + 1 : -1,
            layer == 1 && y > 0 ? p - width : -1, layer == 1 && y < height - 1 ? p + width : -1,
            layer == 0 ? p + width * height : p - width * height};
    }

    private int price(int p, int net, boolean robbing) {
        if (kept[p] >= 0 && kept[p] != net) {
            return FAR;
        }
        if (owner[p] < 0) {
            return 1;
        }
        return robbing && owner[p] != net ? 11 : FAR;
    }

    private int[] distances(int net, boolean robbing) {
        int[] distance = new int[owner.length];
        PriorityQueue<int[]> queue = new PriorityQueue<>((a, b) -> a[0] - b[0]);
        for (int p = 0; p < owner.length; p++) {
            distance[p] = owner[p] == net ? 0 : FAR;
            if (owner[p] == net) {
                queue.add(new int[] {0, p});
            }
        }
        while (!queue.isEmpty()) {
            int[] head = queue.remove();
            for (int q : next(head[1])) {
                if (q >= 0 && head[0] + price(q, net, robbing) < distance[q]) {
                    distance[q] = head[0] + price(q, net, robbing);
                    queue.add(new int[] {distance[q], q});
                }
            }
        }
        return distance;
    }

    private boolean connect(int net, boolean robbing) {
        open[net] = 0;
        owner[pinPoints[net][0]] = net;
        while (true) {
            int[] distance = distances(net, robbing);
            int pin = -1;
            boolean missing = false;
            for (int p : pinPoints[net]) {
                missing |= owner[p] != net;
                if (owner[p] != net && distance[p] < FAR && (pin < 0 || distance[p] < distance[pin])) {
                    pin = p;
                }
            }
            if (!missing) {
                return true;
            }
            if (pin < 0) {
                lose(net);
                return false;
            }
            walkBack(net, pin, distance, robbing);
        }
    }

    private void walkBack(int net, int pin, int[] distance, boolean robbing) {
        List<Integer> way = new ArrayList<>(List.of(pin));
        int at = pin;
        while (distance[at] > 0) {
            int price = price(at, net, robbing);
            int found = -1;
            for (int q : next(at)) {
                if (found < 0 && q >= 0 && distance[q] + price == distance[at]) {
                    found = q;
                }
            }
            steps.get(net).add(Math.min(at, found) * 10000 + Math.max(at, found));
            way.add(found);
            at = found;
        }
        for (int p : way) {
            if (owner[p] >= 0 && owner[p] != net) {
                robbed++;
                lose(owner[p]);
            }
            owner[p] = net;
        }
    }

    private void lose(int net) {
        open[net] = 1;
        steps.get(net).clear();
        for (int p = 0; p < owner.length; p++) {
            owner[p] = owner[p] == net ? -1 : owner[p];
        }
    }

    int vias(int net) {
        return (int) steps.get(net).stream().filter(s -> s % 10000 - s / 10000 == width * height).count();
    }

    int points(int net) {
        return (int) Arrays.stream(owner).filter(o -> o == net).count();
    }

    /** Section 7, TO DRAW: the boxes of these wires as layer, x0, y0, x1, y1. */
    List<int[]> boxes() {
        List<int[]> all = new ArrayList<>();
        for (int net = 0; net < open.length; net++) {
            for (int y = 0; y < height; y++) {
                for (int x = 0; x < width; x++) {
                    row(all, net, 0, x, y);
                }
            }
            for (int x = 0; x < width; x++) {
                for (int y = 0; y < height; y++) {
                    row(all, net, 1, x, y);
                }
            }
            for (int p = 0; p < width * height; p++) {
                if (isStep(net, p, p + width * height)) {
                    all.add(box(2, p % width, p / width, p % width, p / width));
                }
            }
        }
        return all;
    }

    private boolean isStep(int net, int p, int q) {
        return steps.get(net).contains(p * 10000 + q);
    }

    private static int[] box(int layer, int x0, int y0, int x1, int y1) {
        return new int[] {layer, 4 * x0 - 1, 4 * y0 - 1, 4 * x1 + 1, 4 * y1 + 1};
    }

    /** The box of the longest row that begins at a point, if one does. */
    private void row(List<int[]> all, int net, int layer, int x, int y) {
        int p = (layer * height + y) * width + x;
        int apart = layer == 0 ? 1 : width;
        if (owner[p] != net || isStep(net, p - apart, p)) {
            return;
        }
        int length = 0;
        while (isStep(net, p + length * apart, p + (length + 1) * apart)) {
            length++;
        }
        all.add(box(layer, x, y, layer == 0 ? x + length : x, layer == 0 ? y : y + length));
    }
}
