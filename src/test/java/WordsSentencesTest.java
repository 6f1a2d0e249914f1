import java.math.BigInteger;

/** Promises 22 to 31 as their sentences say what a call is for; each test is headed by the sentence that it is of. */
public final class WordsSentencesTest {
    private static final int NONE = Koebehall.NONE;
    private static final int[][] MOVES = {{2, 1, 1, 1}, {0, -1, 1, 0}, {3, -5, 2, -3}, {-7, 12, 4, -7}};
    private static final int[][] FRACTIONS = {{0, 1}, {1, 1}, {-1, 1}, {1, 2}, {-3, 2}, {2, 5}, {7, 4}, {-5, 3}, {1, 0}};

    public static void main(String[] args) {
        wordsKeepFractionsApart();
        movesAreOfOne();
        movesBringFractions();
        tellsAMove();
        appendsAMove();
        appendsWhatUndoesIt();
        traceIsAAndDTogether();
        tellsOfTheWord();
        returnsAsTold();
        returnsWhereTheWordBrings();
        rectanglesOfSquares();
        networksHaveNodesAndWires();
        tellsAWire();
        heightsAreWhole();
        tellsOfTheRectangle();
        Check.end();
    }

    private static Koebehall told() {
        Koebehall x = new Koebehall();
        for (int[] one : MOVES) {
            x.tell(one[0], one[1], one[2], one[3]);
        }
        return x;
    }

    private static long[] word(Koebehall x) {
        return new long[] {x.word(0), x.word(1), x.word(2), x.word(3)};
    }

    private static void wordIs(String what, Koebehall x, long... due) {
        for (int place = 0; place < 4; place++) {
            int at = place;
            Check.due(what + ": word(" + at + ")", due[at], () -> x.word(at));
        }
    }

    private static void appendAtWill(Koebehall x) {
        try {
            x.append(Check.pick(4), Check.pick(2) == 0);
        } catch (IllegalStateException tooGreat) {
            x.home();
        }
    }

    private static long[] image(Koebehall x, int[] fraction) {
        return new long[] {x.image(fraction[0], fraction[1], true), x.image(fraction[0], fraction[1], false)};
    }

    private static BigInteger crossed(long p, long q, long r, long s) {
        return BigInteger.valueOf(p).multiply(BigInteger.valueOf(s)).subtract(
                BigInteger.valueOf(r).multiply(BigInteger.valueOf(q)));
    }

    // What it is: "A hall of circles that touch: nets of triangles that are split and flipped, disks in whole numbers
    // that draw them, gaskets whose curvatures are whole by moves of four, circles of fractions, words of moves that keep
    // fractions apart, and rectangles of squares that come of networks."
    private static void wordsKeepFractionsApart() {
        for (int run = 0; run < 20; run++) {
            Koebehall x = told();
            for (int step = 0; step < 12; step++) {
                appendAtWill(x);
            }
            for (int[] one : FRACTIONS) {
                for (int[] other : FRACTIONS) {
                    long[] a = image(x, one);
                    long[] b = image(x, other);
                    BigInteger due = crossed(one[0], one[1], other[0], other[1]).abs();
                    BigInteger got = crossed(a[0], a[1], b[0], b[1]).abs();
                    Check.holds("as far apart as before: " + got + ", due is " + due + ":", () -> due.equals(got));
                }
            }
        }
    }

    // Promises 22 and 23, Terms: "A move has whole numbers a, b, c, d with a d less b c being 1;"
    private static void movesAreOfOne() {
        for (int a = -3; a <= 3; a++) {
            for (int b = -3; b <= 3; b++) {
                for (int c = -3; c <= 3; c++) {
                    for (int d = -3; d <= 3; d++) {
                        movesAreOfOne(a, b, c, d);
                    }
                }
            }
        }
        Koebehall x = told();
        for (int step = 0; step < 60; step++) {
            appendAtWill(x);
            long[] word = word(x);
            Check.dueLong("so has the word", 1, word[0] * word[3] - word[1] * word[2]);
        }
    }

    private static void movesAreOfOne(int a, int b, int c, int d) {
        Koebehall x = new Koebehall();
        String what = "tell(" + a + ", " + b + ", " + c + ", " + d + ")";
        if (a * d - b * c == 1) {
            Check.due(what, 0, () -> x.tell(a, b, c, d));
            Check.due(what + " appended", a + d, () -> x.append(0, false));
        } else {
            Check.noArgument(what, () -> x.tell(a, b, c, d));
            Check.noIndex(what + " appended", () -> x.append(0, false));
        }
    }

    // Promise 26, Terms: "it brings p / q to (a p + b q) / (c p + d q), told in lowest terms, q not below 0;"
    private static void movesBringFractions() {
        for (int move = 0; move < MOVES.length; move++) {
            Koebehall x = told();
            x.append(move, false);
            long[] m = word(x);
            for (int[] one : FRACTIONS) {
                long[] got = image(x, one);
                String what = one[0] + " / " + one[1] + " by " + move + ": " + got[0] + " / " + got[1];
                long top = m[0] * one[0] + m[1] * one[1];
                long bottom = m[2] * one[0] + m[3] * one[1];
                Check.dueLong(what + " is the same", 0, crossed(top, bottom, got[0], got[1]).signum());
                Check.holds(what + " is not below 0 below", () -> got[1] > 0 || got[1] == 0 && got[0] == 1);
                BigInteger common = BigInteger.valueOf(got[0]).gcd(BigInteger.valueOf(got[1]));
                Check.dueLong(what + " is in lowest terms", 1, common.longValueExact());
            }
        }
    }

    // Promise 22: "Tells a move."
    private static void tellsAMove() {
        Koebehall x = new Koebehall();
        for (int move = 0; move < MOVES.length; move++) {
            int[] one = MOVES[move];
            Check.due("move " + move, move, () -> x.tell(one[0], one[1], one[2], one[3]));
            wordIs("it is not appended", x, 1, 0, 0, 1);
        }
        for (int move = 0; move < MOVES.length; move++) {
            int[] one = MOVES[move];
            int at = move;
            Check.due("its trace", one[0] + one[3], () -> x.append(at, false));
            wordIs("as told", x, one[0], one[1], one[2], one[3]);
            x.home();
        }
    }

    // Promise 23: "Appends a move to the word, or what undoes it."
    private static void appendsAMove() {
        Koebehall x = told();
        x.append(0, false);
        wordIs("the first", x, 2, 1, 1, 1);
        x.append(1, false);
        wordIs("the second", x, 1, -2, 1, -1);
        x.append(0, false);
        wordIs("the first once more", x, 0, -1, 1, 0);
    }

    // Promise 23: "Appends a move to the word, or what undoes it."
    private static void appendsWhatUndoesIt() {
        for (int move = 0; move < MOVES.length; move++) {
            for (int end = 0; end < 2; end++) {
                Koebehall x = told();
                x.append(3, false);
                x.append(2, true);
                long[] before = word(x);
                x.append(move, end == 0);
                x.append(move, end == 1);
                wordIs("one and what undoes it", x, before);
            }
        }
    }

    // Promises 23 and 24, Terms: "Its trace is a and d together."
    private static void traceIsAAndDTogether() {
        Koebehall x = told();
        for (int step = 0; step < 20; step++) {
            int move = Check.pick(3);
            long trace = x.append(move, Check.pick(2) == 0);
            long[] word = word(x);
            Check.dueLong("the trace then", word[0] + word[3], trace);
            if (step % 4 == 3) {
                Check.due("the trace before", trace, () -> x.home());
            }
        }
    }

    // Promise 25: "Tells of the word."
    private static void tellsOfTheWord() {
        Koebehall x = told();
        wordIs("at first", x, 1, 0, 0, 1);
        Check.due("its kind", 0, () -> x.word(4));
        x.append(1, false);
        wordIs("of a quarter", x, 0, -1, 1, 0);
        Check.due("its kind", 1, () -> x.word(4));
        x.append(1, false);
        wordIs("with signs turned", x, -1, 0, 0, -1);
        Check.due("its kind", 0, () -> x.word(4));
        x.append(0, false);
        wordIs("far", x, -2, -1, -1, -1);
        Check.due("its kind", 3, () -> x.word(4));
        Koebehall y = new Koebehall();
        y.tell(1, -4, 0, 1);
        y.append(0, false);
        Check.due("its kind", 2, () -> y.word(4));
    }

    // Promise 25: "Returns as told."
    private static void returnsAsTold() {
        for (int place = 0; place < 4; place++) {
            int at = place;
            for (int[] one : MOVES) {
                Koebehall x = new Koebehall();
                x.tell(one[0], one[1], one[2], one[3]);
                x.append(0, false);
                Check.due("word(" + at + ")", one[at], () -> x.word(at));
            }
        }
    }

    // Promise 26: "Returns where the word brings p / q."
    private static void returnsWhereTheWordBrings() {
        Koebehall x = told();
        x.append(3, false);
        x.append(2, false);
        Koebehall first = told();
        first.append(3, false);
        Koebehall second = told();
        second.append(2, false);
        for (int[] one : FRACTIONS) {
            long[] on = image(second, one);
            long[] due = image(first, new int[] {(int) on[0], (int) on[1]});
            long[] got = image(x, one);
            Check.dueLong("what was appended last comes first, above", due[0], got[0]);
            Check.dueLong("what was appended last comes first, below", due[1], got[1]);
        }
    }

    private static final int[][] NETWORKS = {{2, 0, 1, 1, 0}, {3, 0, 1, 1, 2, 2, 0}, {4, 0, 1, 1, 2, 2, 3, 3, 0, 0, 2},
        {4, 0, 1, 0, 2, 0, 3, 1, 2, 1, 3, 2, 3}, {5, 0, 1, 0, 2, 1, 2, 1, 3, 2, 4, 3, 4, 3, 4},
        {6, 0, 1, 0, 2, 1, 5, 1, 3, 2, 3, 2, 4, 3, 4, 3, 5, 4, 5}, {6, 5, 3, 3, 0, 0, 4, 4, 1, 1, 2, 2, 5, 5, 0}};

    private static int wiresOf(int[] network) {
        return (network.length - 1) / 2;
    }

    private static Koebehall networkOf(int[] network) {
        Koebehall x = new Koebehall();
        x.nodes(network[0]);
        for (int wire = 0; wire < wiresOf(network); wire++) {
            x.wire(network[1 + 2 * wire], network[2 + 2 * wire]);
        }
        return x;
    }

    // What it is: "A hall of circles that touch: nets of triangles that are split and flipped, disks in whole numbers
    // that draw them, gaskets whose curvatures are whole by moves of four, circles of fractions, words of moves that keep
    // fractions apart, and rectangles of squares that come of networks."
    private static void rectanglesOfSquares() {
        for (int[] network : NETWORKS) {
            for (int from = 0; from < network[0]; from++) {
                Koebehall x = networkOf(network);
                int to = (from + 1) % network[0];
                long area = 0;
                for (int wire = 0; wire < wiresOf(network); wire++) {
                    long side = x.side(from, to, wire);
                    area += side * side;
                }
                Check.dueLong("the squares fill it", (long) x.trees() * x.side(from, to, NONE), area);
            }
        }
    }

    // Promises 27 and 28, Terms: "A network has 2 to 6 nodes, 2 at first, and wires, numbered from 0, at most 10, each
    // between two nodes."
    private static void networksHaveNodesAndWires() {
        Koebehall x = new Koebehall();
        Check.noIndex("two at first, not three", () -> x.wire(0, 2));
        for (int many = 2; many <= 6; many++) {
            int nodes = many;
            Check.due("nodes", nodes == 2 ? 2 : nodes - 1, () -> x.nodes(nodes));
            for (int wire = 0; wire < 10; wire++) {
                int at = wire;
                Check.noArgument("one node alone", () -> x.wire(at % nodes, at % nodes));
                Check.due("between two nodes", at, () -> x.wire(at % nodes, (at + 1) % nodes));
            }
            Check.noState("an eleventh", () -> x.wire(0, nodes - 1));
        }
        Check.noArgument("seven nodes", () -> x.nodes(7));
        Check.noArgument("one node", () -> x.nodes(1));
        Check.due("six nodes", 6, () -> x.nodes(2));
    }

    // Promise 28: "Tells a wire."
    private static void tellsAWire() {
        Koebehall x = new Koebehall();
        x.nodes(3);
        Check.due("the first", 0, () -> x.wire(2, 0));
        Check.due("no tree yet", 0, () -> x.trees());
        Check.due("the second", 1, () -> x.wire(0, 1));
        Check.due("a tree", 1, () -> x.trees());
        Check.due("the first goes from 2 to 0", 1, () -> x.side(2, 1, 0));
        Check.due("the second goes from 0 to 1", 1, () -> x.side(2, 1, 1));
        Check.due("one told alike is another one", 2, () -> x.wire(2, 0));
        Check.due("two trees", 2, () -> x.trees());
    }

    /** The heights as the sides tell them, from the node to on along the wires. */
    private static long[] heights(Koebehall x, int[] network, int from, int to) {
        long[] found = new long[network[0]];
        boolean[] isKnown = new boolean[network[0]];
        isKnown[to] = true;
        for (int round = 0; round < network[0]; round++) {
            for (int wire = 0; wire < wiresOf(network); wire++) {
                int first = network[1 + 2 * wire];
                int second = network[2 + 2 * wire];
                long side = x.side(from, to, wire);
                if (isKnown[second] && !isKnown[first]) {
                    found[first] = found[second] + side;
                    isKnown[first] = true;
                } else if (isKnown[first] && !isKnown[second]) {
                    found[second] = found[first] - side;
                    isKnown[second] = true;
                }
            }
        }
        return found;
    }

    // Promise 31, Terms: "Between two nodes, from and to, of a network that has a tree, each node has a height, a whole
    // number: that of to is 0, and at each other one the sum, over its wires, of its height less that of the node at the
    // other end, is 0, but how many trees there are at from."
    private static void heightsAreWhole() {
        for (int[] network : NETWORKS) {
            for (int from = 0; from < network[0]; from++) {
                for (int to = 0; to < network[0]; to++) {
                    if (from != to) {
                        heightsAreWhole(network, from, to);
                    }
                }
            }
        }
    }

    private static void heightsAreWhole(int[] network, int from, int to) {
        Koebehall x = networkOf(network);
        long[] height = heights(x, network, from, to);
        long[] sum = new long[network[0]];
        for (int wire = 0; wire < wiresOf(network); wire++) {
            int first = network[1 + 2 * wire];
            int second = network[2 + 2 * wire];
            sum[first] += height[first] - height[second];
            sum[second] += height[second] - height[first];
        }
        String what = "from " + from + " to " + to;
        Check.dueLong(what + ": as high as from is", height[from], x.side(from, to, NONE));
        for (int node = 0; node < network[0]; node++) {
            long due = node == from ? x.trees() : node == to ? -x.trees() : 0;
            Check.dueLong(what + ": the sum at " + node, due, sum[node]);
        }
    }

    // Promise 31: "Tells of the rectangle of two nodes."
    private static void tellsOfTheRectangle() {
        for (int[] network : NETWORKS) {
            for (int to = 1; to < network[0]; to++) {
                int end = to;
                Koebehall x = networkOf(network);
                Check.due("turned over it is as high", x.side(0, end, NONE), () -> x.side(end, 0, NONE));
                for (int wire = 0; wire < wiresOf(network); wire++) {
                    int at = wire;
                    Check.due("turned over, " + at, -x.side(0, end, at), () -> x.side(end, 0, at));
                }
            }
        }
    }
}
