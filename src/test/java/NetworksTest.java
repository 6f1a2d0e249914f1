import java.math.BigInteger;
import java.util.ArrayList;
import java.util.List;

/** Promises 27 to 31: nodes, wire, trees, treesAnew, side. */
public final class NetworksTest {
    public static void main(String[] args) {
        numbersAndRanges();
        nodesBeginAnew();
        wireRefuses();
        treesByHand();
        sideByHand();
        squaredRectangle();
        sideRefuses();
        for (int run = 0; run < 120; run++) {
            runAtWill(run);
        }
        Check.end();
    }

    private static void trees(Koebehall x, String what, int due) {
        Check.due(what + ": trees", due, () -> x.trees());
        Check.due(what + ": treesAnew", due, () -> x.treesAnew());
    }

    private static Koebehall network(int nodes, int... ends) {
        Koebehall x = new Koebehall();
        x.nodes(nodes);
        for (int at = 0; at < ends.length; at += 2) {
            x.wire(ends[at], ends[at + 1]);
        }
        return x;
    }

    private static void numbersAndRanges() {
        Koebehall x = new Koebehall();
        trees(x, "two nodes without wires", 0);
        for (int wire = 0; wire < 10; wire++) {
            int due = wire;
            Check.due("wire " + due, due, () -> x.wire(due % 2, 1 - due % 2));
            trees(x, "wires side by side", due + 1);
        }
        Check.noState("there are 10", () -> x.wire(0, 1));
        Check.noArgument("the same is told first", () -> x.wire(1, 1));
        Check.noIndex("an index is told first", () -> x.wire(2, 2));
        trees(x, "a refused wire", 10);
        Check.due("the last wire", -1, () -> x.side(0, 1, 9));
        Check.noIndex("no wire 10", () -> x.side(0, 1, 10));
    }

    private static void nodesBeginAnew() {
        Koebehall x = new Koebehall();
        int[] wrong = {1, 0, -1, 7, Integer.MAX_VALUE, Integer.MIN_VALUE};
        Check.due("wire", 0, () -> x.wire(0, 1));
        for (int many : wrong) {
            Check.noArgument("nodes(" + many + ")", () -> x.nodes(many));
        }
        trees(x, "refused", 1);
        Check.due("two at first", 2, () -> x.nodes(6));
        trees(x, "without wires", 0);
        Check.noIndex("no wire", () -> x.side(0, 1, 0));
        Check.due("wire", 0, () -> x.wire(5, 0));
        Check.noIndex("wire(6, 0)", () -> x.wire(6, 0));
        Check.due("six", 6, () -> x.nodes(6));
        Check.due("wire", 0, () -> x.wire(5, 4));
        Check.due("six", 6, () -> x.nodes(2));
        Check.noIndex("wire(2, 0)", () -> x.wire(2, 0));
        Check.due("wire", 0, () -> x.wire(0, 1));
        trees(x, "anew", 1);
        Check.due("two", 2, () -> x.nodes(3));
        Check.due("three", 3, () -> x.nodes(4));
        Check.due("four", 4, () -> x.nodes(5));
        Check.due("five", 5, () -> x.nodes(2));
    }

    private static void wireRefuses() {
        Koebehall x = network(3, 0, 1);
        Check.noIndex("wire(-1, 0)", () -> x.wire(-1, 0));
        Check.noIndex("wire(0, -1)", () -> x.wire(0, -1));
        Check.noIndex("wire(3, 0)", () -> x.wire(3, 0));
        Check.noIndex("wire(0, 3)", () -> x.wire(0, 3));
        Check.noIndex("an index is told first", () -> x.wire(-1, -1));
        Check.noIndex("wire(most, least)", () -> x.wire(Integer.MAX_VALUE, Integer.MIN_VALUE));
        Check.noArgument("wire(0, 0)", () -> x.wire(0, 0));
        Check.noArgument("wire(2, 2)", () -> x.wire(2, 2));
        Check.due("the next", 1, () -> x.wire(2, 1));
        trees(x, "two wires", 1);
    }

    private static void treesByHand() {
        trees(network(3, 0, 1), "one node alone", 0);
        trees(network(3, 0, 1, 1, 2), "a row", 1);
        trees(network(3, 0, 1, 1, 2, 2, 0), "three in a ring", 3);
        trees(network(3, 0, 1, 1, 2, 2, 0, 0, 2), "three in a ring, one side twice", 5);
        trees(network(4, 0, 1, 0, 2, 0, 3, 1, 2, 1, 3, 2, 3), "four all joined", 16);
        trees(network(5, 0, 1, 0, 2, 0, 3, 0, 4, 1, 2, 1, 3, 1, 4, 2, 3, 2, 4, 3, 4), "five all joined", 125);
        trees(network(6, 0, 1, 1, 2, 2, 3, 3, 4, 4, 5, 5, 0), "six in a ring", 6);
        trees(network(6, 0, 3, 0, 4, 0, 5, 1, 3, 1, 4, 1, 5, 2, 3, 2, 4, 2, 5), "three by three", 81);
        trees(network(6, 0, 1, 1, 2, 2, 0, 3, 4, 4, 5, 5, 3), "two rings apart", 0);
        trees(network(6, 1, 2, 2, 3, 3, 4, 4, 5, 5, 1), "0 apart", 0);
        trees(network(6, 0, 5, 1, 5, 2, 5, 3, 5, 4, 5), "a star", 1);
        trees(network(4, 0, 1, 0, 1, 2, 3, 2, 3), "two pairs apart", 0);
    }

    private static void sideByHand() {
        Koebehall one = network(2, 0, 1);
        Check.due("high", 1, () -> one.side(0, 1, Koebehall.NONE));
        Check.due("down", 1, () -> one.side(0, 1, 0));
        Check.due("up", -1, () -> one.side(1, 0, 0));
        Check.due("high", 1, () -> one.side(1, 0, Koebehall.NONE));
        Koebehall row = network(3, 0, 1, 1, 2);
        Check.due("high", 2, () -> row.side(0, 2, Koebehall.NONE));
        Check.due("high", 1, () -> row.side(0, 1, Koebehall.NONE));
        Check.due("none flows there", 0, () -> row.side(0, 1, 1));
        Check.due("there it does", 1, () -> row.side(0, 2, 1));
        Koebehall ring = network(3, 0, 1, 1, 2, 2, 0);
        Check.due("high", 2, () -> ring.side(0, 1, Koebehall.NONE));
        Check.due("straight", 2, () -> ring.side(0, 1, 0));
        Check.due("round, backwards", -1, () -> ring.side(0, 1, 1));
        Check.due("round, backwards", -1, () -> ring.side(0, 1, 2));
        trees(ring, "asking changes nothing", 3);
    }

    /** The rectangle of 33 by 32, of nine squares; the nodes are what lies flat, the wires the squares between. */
    private static void squaredRectangle() {
        int[] sides = {18, 15, 14, 4, 7, 8, 1, 10, 9};
        Koebehall x = network(6, 0, 1, 0, 2, 1, 5, 1, 3, 2, 3, 2, 4, 3, 4, 3, 5, 4, 5);
        int by = 2;
        trees(x, "as wide as the trees", 33 * by);
        Check.due("high", 32 * by, () -> x.side(0, 5, Koebehall.NONE));
        for (int wire = 0; wire < 9; wire++) {
            int at = wire;
            Check.due("square " + at, sides[at] * by, () -> x.side(0, 5, at));
            Check.due("square " + at + " turned over", -sides[at] * by, () -> x.side(5, 0, at));
        }
        squares(x, 6);
    }

    private static void squares(Koebehall x, int nodes) {
        for (int from = 0; from < nodes; from++) {
            for (int to = 0; to < nodes; to++) {
                if (from != to) {
                    areaFits(x, from, to);
                }
            }
        }
    }

    /** The squares fill the rectangle. */
    private static void areaFits(Koebehall x, int from, int to) {
        long area = 0;
        for (int wire = 0; wire < 9; wire++) {
            long side = x.side(from, to, wire);
            area += side * side;
        }
        Check.dueLong("the area", (long) x.trees() * x.side(from, to, Koebehall.NONE), area);
    }

    private static void sideRefuses() {
        Koebehall x = network(3, 0, 1, 0, 1);
        Check.noState("no tree", () -> x.side(0, 1, 0));
        Check.noState("no tree", () -> x.side(0, 2, Koebehall.NONE));
        Check.noArgument("the same is told ahead of no tree", () -> x.side(1, 1, 0));
        Check.noIndex("an index is told first", () -> x.side(3, 3, 0));
        Check.noIndex("an index is told first", () -> x.side(1, 1, 2));
        Check.noIndex("an index is told first", () -> x.side(0, 1, 2));
        x.wire(2, 0);
        Check.noIndex("side(-1, 0)", () -> x.side(-1, 0, 0));
        Check.noIndex("side(0, -1)", () -> x.side(0, -1, 0));
        Check.noIndex("side(3, 0)", () -> x.side(3, 0, 0));
        Check.noIndex("side(0, 3)", () -> x.side(0, 3, 0));
        Check.noIndex("wire 3", () -> x.side(0, 1, 3));
        Check.noIndex("wire -2", () -> x.side(0, 1, -2));
        Check.noIndex("wire most", () -> x.side(0, 1, Integer.MAX_VALUE));
        Check.noIndex("wire least", () -> x.side(0, 1, Integer.MIN_VALUE));
        Check.noArgument("the same", () -> x.side(0, 0, 0));
        Check.noArgument("the same", () -> x.side(2, 2, Koebehall.NONE));
        Check.due("the last wire", 2, () -> x.side(2, 1, 2));
        Koebehall empty = new Koebehall();
        Check.noState("no wires", () -> empty.side(0, 1, Koebehall.NONE));
        Check.noArgument("the same", () -> empty.side(0, 0, Koebehall.NONE));
    }

    private static void runAtWill(int run) {
        int nodes = 2 + run % 5;
        int many = Check.pickFrom(nodes - 1, 10);
        List<int[]> wires = new ArrayList<>();
        Koebehall x = new Koebehall();
        x.nodes(nodes);
        for (int wire = 0; wire < many; wire++) {
            int first = Check.pick(nodes);
            int second = (first + 1 + Check.pick(nodes - 1)) % nodes;
            Check.dueLong("wire", wire, x.wire(first, second));
            wires.add(new int[] {first, second});
        }
        int due = treesOf(nodes, wires);
        trees(x, "run " + run, due);
        for (int from = 0; from < nodes; from++) {
            for (int to = 0; to < nodes; to++) {
                if (from != to && due > 0) {
                    sidesAtWill(run, x, wires, new int[] {nodes, from, to, due});
                } else {
                    int a = from;
                    int b = to;
                    Check.refused("run " + run + " side", a == b ? IllegalArgumentException.class
                            : IllegalStateException.class, () -> x.side(a, b, Koebehall.NONE));
                }
            }
        }
    }

    private static void sidesAtWill(int run, Koebehall x, List<int[]> wires, int[] asked) {
        BigInteger[] heights = heightsOf(wires, asked);
        String what = "run " + run + " from " + asked[1] + " to " + asked[2];
        Check.dueLong(what + " high", heights[asked[1]].longValueExact(), x.side(asked[1], asked[2], Koebehall.NONE));
        for (int wire = 0; wire < wires.size(); wire++) {
            long due = heights[wires.get(wire)[0]].subtract(heights[wires.get(wire)[1]]).longValueExact();
            Check.dueLong(what + " wire " + wire, due, x.side(asked[1], asked[2], wire));
        }
    }

    /** By taking wires out or drawing their ends together, one after the other. */
    private static int treesOf(int nodes, List<int[]> wires) {
        if (nodes == 1) {
            return 1;
        }
        if (wires.isEmpty()) {
            return 0;
        }
        int[] last = wires.get(wires.size() - 1);
        List<int[]> without = new ArrayList<>(wires.subList(0, wires.size() - 1));
        List<int[]> drawn = new ArrayList<>();
        for (int[] wire : without) {
            int a = wire[0] == last[0] ? last[1] : wire[0];
            int b = wire[1] == last[0] ? last[1] : wire[1];
            if (a != b) {
                drawn.add(new int[] {a, b});
            }
        }
        return treesOf(nodes, without) + treesOf(nodes - 1, drawn);
    }

    /** The heights by solving the sums of the nodes in fractions, all over one bottom a line. */
    private static BigInteger[] heightsOf(List<int[]> wires, int[] asked) {
        int nodes = asked[0];
        BigInteger[][] lines = new BigInteger[nodes][nodes + 1];
        for (int row = 0; row < nodes; row++) {
            for (int column = 0; column <= nodes; column++) {
                lines[row][column] = BigInteger.ZERO;
            }
        }
        for (int[] wire : wires) {
            add(lines, wire[0], wire[0], 1);
            add(lines, wire[1], wire[1], 1);
            add(lines, wire[0], wire[1], -1);
            add(lines, wire[1], wire[0], -1);
        }
        lines[asked[1]][nodes] = BigInteger.valueOf(asked[3]);
        for (int column = 0; column <= nodes; column++) {
            lines[asked[2]][column] = column == asked[2] ? BigInteger.ONE : BigInteger.ZERO;
        }
        for (int step = 0; step < nodes; step++) {
            int row = step;
            while (lines[row][step].signum() == 0) {
                row++;
            }
            BigInteger[] kept = lines[row];
            lines[row] = lines[step];
            lines[step] = kept;
            for (int other = 0; other < nodes; other++) {
                if (other != step) {
                    takeOff(lines[other], lines[step], step);
                }
            }
        }
        BigInteger[] heights = new BigInteger[nodes];
        for (int row = 0; row < nodes; row++) {
            BigInteger[] parts = lines[row][nodes].divideAndRemainder(lines[row][row]);
            Check.dueLong("a height is whole", 0, parts[1].longValueExact());
            heights[row] = parts[0];
        }
        return heights;
    }

    private static void add(BigInteger[][] lines, int row, int column, long much) {
        lines[row][column] = lines[row][column].add(BigInteger.valueOf(much));
    }

    private static void takeOff(BigInteger[] line, BigInteger[] pivot, int step) {
        BigInteger much = line[step];
        BigInteger by = pivot[step];
        for (int column = 0; column < line.length; column++) {
            line[column] = line[column].multiply(by).subtract(pivot[column].multiply(much));
        }
    }
}
