/** Promises 27 to 31 where they end; each test is headed by the sentence that it is of. */
public final class NetworksBoundsTest {
    private static final int NONE = Koebehall.NONE;
    private static final int MOST = Integer.MAX_VALUE;
    private static final int LEAST = Integer.MIN_VALUE;

    public static void main(String[] args) {
        nodesTwoAtFirst();
        nodesRange();
        nodesOutOfRange();
        nodesReturnsHowManyThereWere();
        refusedNodesKeepTheWires();
        nodesBeginsAnew();
        wiresAreAtMostTen();
        wireFirst();
        wireSecond();
        wireReturnsItsNumber();
        wireNoSuchNode();
        wireOfTheSame();
        wireOfTen();
        wireTellsInOrder();
        refusedWireTakesNoNumber();
        treesOfNoWires();
        treesReturnsHowMany();
        treesAnewOfNoWires();
        treesAnewReturnsHowMany();
        treesOfWiresTooFew();
        treesOfWiresThatCanBeLeftOut();
        treesOfWiresSideBySide();
        treesOfNodesApart();
        sideFrom();
        sideTo();
        sideWire();
        sideNoSuchNode();
        sideNoSuchWire();
        sideOfTheSame();
        sideOfNoTree();
        sideTellsInOrder();
        sideOfNoneIsTheHeight();
        sideBelowZero();
        sideOfZero();
        sideFromFirstToSecond();
        sideOfTheGreatestNetworks();
        Check.end();
    }

    private static Bounds.Maker network(int nodes, int... ends) {
        return () -> {
            Koebehall x = new Koebehall();
            x.nodes(nodes);
            for (int at = 0; at < ends.length; at += 2) {
                x.wire(ends[at], ends[at + 1]);
            }
            return x;
        };
    }

    private static Koebehall sideBySide(int wires) {
        Koebehall x = new Koebehall();
        for (int wire = 0; wire < wires; wire++) {
            x.wire(0, 1);
        }
        return x;
    }

    private static Koebehall nine() {
        return sideBySide(9);
    }

    private static Koebehall ten() {
        return sideBySide(10);
    }

    private static Koebehall ring() {
        return network(3, 0, 1, 1, 2, 2, 0).made();
    }

    private static Koebehall six() {
        return network(6, 0, 1, 1, 2, 2, 3, 3, 4, 4, 5).made();
    }

    private static Koebehall eachTwoOfFive() {
        return network(5, 0, 1, 0, 2, 0, 3, 0, 4, 1, 2, 1, 3, 1, 4, 2, 3, 2, 4, 3, 4).made();
    }

    /** Five nodes around the node 0. */
    private static Koebehall wheel() {
        return network(6, 0, 1, 0, 2, 0, 3, 0, 4, 0, 5, 1, 2, 2, 3, 3, 4, 4, 5, 5, 1).made();
    }

    private static void trees(String what, int due, Bounds.Maker maker) {
        Bounds.due(what + ": trees", due, maker, x -> x.trees());
        Bounds.due(what + ": treesAnew", due, maker, x -> x.treesAnew());
    }

    private static void side(int due, Bounds.Maker maker, int from, int to, int wire) {
        Bounds.due("side(" + from + ", " + to + ", " + wire + ")", due, maker, x -> x.side(from, to, wire));
    }

    // Promise 27, Terms: "A network has 2 to 6 nodes, 2 at first"
    private static void nodesTwoAtFirst() {
        Bounds.due("two at first", 2, Bounds::fresh, x -> x.nodes(3));
        Bounds.due("a wire between them", 0, Bounds::fresh, x -> x.wire(0, 1));
        Bounds.noIndex("no third", Bounds::fresh, x -> x.wire(0, 2));
    }

    // Promise 27: "- `many`: 2 to 6: how many nodes"
    private static void nodesRange() {
        for (int nodes = 2; nodes <= 6; nodes++) {
            int many = nodes;
            Bounds.due("a wire to the last of " + many, 0, network(many), x -> x.wire(0, many - 1));
            Bounds.noIndex("no wire beyond the last of " + many, network(many), x -> x.wire(0, many));
        }
    }

    // Promise 27: "Throws `IllegalArgumentException` if many is out of range"
    private static void nodesOutOfRange() {
        for (int many : new int[] {1, 0, -1, 7, LEAST, MOST}) {
            Bounds.noArgument("nodes(" + many + ") at first", Bounds::fresh, x -> x.nodes(many));
            Bounds.noArgument("nodes(" + many + ") of a ring", NetworksBoundsTest::ring, x -> x.nodes(many));
            Bounds.noArgument("nodes(" + many + ") of six", NetworksBoundsTest::six, x -> x.nodes(many));
        }
    }

    // Promise 27: "Returns how many there were."
    private static void nodesReturnsHowManyThereWere() {
        for (int nodes = 2; nodes <= 6; nodes++) {
            int many = nodes;
            Bounds.due("there were " + many, many, network(many), x -> x.nodes(6));
            Bounds.due("there were " + many, many, network(many), x -> x.nodes(2));
        }
        Bounds.due("a refused one does not count", 3, NetworksBoundsTest::ring, x -> {
            Check.noArgument("seven", () -> x.nodes(7));
            return x.nodes(4);
        });
    }

    // Promise 27, Terms: "A call that throws an exception changes nothing."
    private static void refusedNodesKeepTheWires() {
        Koebehall x = six();
        Check.noArgument("one node", () -> x.nodes(1));
        Check.noArgument("seven nodes", () -> x.nodes(7));
        Check.due("the wires are there", 1, () -> x.trees());
        Check.due("the next wire has the next number", 5, () -> x.wire(5, 0));
        Check.due("there were six nodes", 6, () -> x.nodes(2));
    }

    // Promise 27: "Begins a network anew, without wires."
    private static void nodesBeginsAnew() {
        for (int nodes = 2; nodes <= 6; nodes++) {
            int many = nodes;
            Bounds.Maker anew = () -> {
                Koebehall x = six();
                x.nodes(many);
                return x;
            };
            trees("anew", 0, anew);
            Bounds.noIndex("no wire any more", anew, x -> x.side(0, 1, 0));
            Bounds.due("the first wire again", 0, anew, x -> x.wire(0, 1));
        }
        Bounds.due("ten again", 9, NetworksBoundsTest::ten, x -> {
            x.nodes(2);
            int last = NONE;
            for (int wire = 0; wire < 10; wire++) {
                last = x.wire(1, 0);
            }
            return last;
        });
    }

    // Promise 28, Terms: "and wires, numbered from 0, at most 10, each between two nodes."
    private static void wiresAreAtMostTen() {
        for (int wires = 0; wires < 10; wires++) {
            int many = wires;
            Bounds.due("behind " + many, many, () -> sideBySide(many), x -> x.wire(1, 0));
        }
        Bounds.due("the last one is there", 1, NetworksBoundsTest::ten, x -> x.side(0, 1, 9));
    }

    // Promise 28: "- `node`: its first node"
    private static void wireFirst() {
        Bounds.due("the first", 5, NetworksBoundsTest::six, x -> x.wire(0, 3));
        Bounds.due("the last", 5, NetworksBoundsTest::six, x -> x.wire(5, 3));
        Bounds.noIndex("below the first", NetworksBoundsTest::six, x -> x.wire(-1, 3));
        Bounds.noIndex("above the last", NetworksBoundsTest::six, x -> x.wire(6, 3));
    }

    // Promise 28: "- `other`: its second one"
    private static void wireSecond() {
        Bounds.due("the first", 5, NetworksBoundsTest::six, x -> x.wire(3, 0));
        Bounds.due("the last", 5, NetworksBoundsTest::six, x -> x.wire(3, 5));
        Bounds.noIndex("below the first", NetworksBoundsTest::six, x -> x.wire(3, -1));
        Bounds.noIndex("above the last", NetworksBoundsTest::six, x -> x.wire(3, 6));
    }

    // Promise 28: "Returns its number."
    private static void wireReturnsItsNumber() {
        Bounds.due("the first", 0, Bounds::fresh, x -> x.wire(0, 1));
        Bounds.due("the last", 9, NetworksBoundsTest::nine, x -> x.wire(0, 1));
        Bounds.due("the first, begun anew", 0, NetworksBoundsTest::ten, x -> {
            x.nodes(2);
            return x.wire(0, 1);
        });
    }

    // Promise 28: "Throws `IndexOutOfBoundsException` if there is no such node, of either"
    private static void wireNoSuchNode() {
        for (int node : new int[] {-1, 3, 6, LEAST, MOST}) {
            Bounds.noIndex("wire(" + node + ", 0) of 3", NetworksBoundsTest::ring, x -> x.wire(node, 0));
            Bounds.noIndex("wire(0, " + node + ") of 3", NetworksBoundsTest::ring, x -> x.wire(0, node));
        }
        Bounds.due("the last of 6 and the first", 5, NetworksBoundsTest::six, x -> x.wire(5, 0));
        Bounds.noIndex("one beyond 6", NetworksBoundsTest::six, x -> x.wire(6, 0));
        Bounds.noIndex("one beyond 6", NetworksBoundsTest::six, x -> x.wire(5, 6));
        Bounds.noIndex("both beyond 2", Bounds::fresh, x -> x.wire(2, 3));
    }

    // Promise 28: "Throws `IllegalArgumentException` if both are the same"
    private static void wireOfTheSame() {
        Bounds.noArgument("the first", Bounds::fresh, x -> x.wire(0, 0));
        Bounds.noArgument("the last of 2", Bounds::fresh, x -> x.wire(1, 1));
        Bounds.noArgument("the last of 6", NetworksBoundsTest::six, x -> x.wire(5, 5));
    }

    // Promise 28: "Throws `IllegalStateException` if there are 10"
    private static void wireOfTen() {
        Bounds.due("there are 9", 9, NetworksBoundsTest::nine, x -> x.wire(0, 1));
        Bounds.noState("there are 10", NetworksBoundsTest::ten, x -> x.wire(0, 1));
        Bounds.noState("there are 10", NetworksBoundsTest::ten, x -> x.wire(1, 0));
    }

    // Promise 28, Terms: "If several apply, the one that the throws clause names first is thrown."
    private static void wireTellsInOrder() {
        Bounds.noIndex("no node, the same", Bounds::fresh, x -> x.wire(2, 2));
        Bounds.noIndex("no node, the same", Bounds::fresh, x -> x.wire(-1, -1));
        Bounds.noIndex("no node, of 10", NetworksBoundsTest::ten, x -> x.wire(0, 2));
        Bounds.noIndex("no node, the same, of 10", NetworksBoundsTest::ten, x -> x.wire(2, 2));
        Bounds.noArgument("the same, of 10", NetworksBoundsTest::ten, x -> x.wire(1, 1));
    }

    // Promise 28, Terms: "A call that throws an exception changes nothing."
    private static void refusedWireTakesNoNumber() {
        Koebehall x = new Koebehall();
        Check.noArgument("the same", () -> x.wire(0, 0));
        Check.noIndex("no node 2", () -> x.wire(0, 2));
        Check.due("the first is still to come", 0, () -> x.wire(0, 1));
        Check.noArgument("the same", () -> x.wire(1, 1));
        Check.due("the second is still to come", 1, () -> x.wire(0, 1));
    }

    private interface Counting {
        int counted(Koebehall x);
    }

    private static void countsNoWires(Counting how) {
        Bounds.due("of a new object", 0, Bounds::fresh, x -> how.counted(x));
        for (int nodes = 2; nodes <= 6; nodes++) {
            Bounds.due("of " + nodes + " nodes without wires", 0, network(nodes), x -> how.counted(x));
        }
    }

    private static void countsTheGreatest(Counting how) {
        Bounds.due("five nodes, each two joined", 125, NetworksBoundsTest::eachTwoOfFive, x -> how.counted(x));
        Bounds.due("five around one", 121, NetworksBoundsTest::wheel, x -> how.counted(x));
        Bounds.due("three and three", 81, network(6, 0, 3, 0, 4, 0, 5, 1, 3, 1, 4, 1, 5, 2, 3, 2, 4, 2, 5),
                x -> how.counted(x));
        Bounds.due("five in a row", 1, NetworksBoundsTest::six, x -> how.counted(x));
        Bounds.due("ten side by side", 10, NetworksBoundsTest::ten, x -> how.counted(x));
    }

    // Promise 29: "Counts the trees of the network."
    private static void treesOfNoWires() {
        countsNoWires(Koebehall::trees);
    }

    // Promise 29: "Returns how many."
    private static void treesReturnsHowMany() {
        countsTheGreatest(Koebehall::trees);
    }

    // Promise 30: "Counts the same, found by looking at all sets of wires."
    private static void treesAnewOfNoWires() {
        countsNoWires(Koebehall::treesAnew);
    }

    // Promise 30: "Returns how many."
    private static void treesAnewReturnsHowMany() {
        countsTheGreatest(Koebehall::treesAnew);
    }

    // Promises 29 and 30, Terms: "A tree is a set of wires by which all nodes hang together, and of which none can be
    // left out."
    private static void treesOfWiresTooFew() {
        trees("one wire of two nodes", 1, network(2, 0, 1));
        trees("one wire of three nodes", 0, network(3, 0, 1));
        trees("two wires of three nodes", 1, network(3, 0, 1, 2, 1));
        trees("four wires of six nodes", 0, network(6, 0, 1, 1, 2, 2, 3, 3, 4));
        trees("five wires of six nodes", 1, NetworksBoundsTest::six);
    }

    // Promises 29 and 30, Terms: "A tree is a set of wires by which all nodes hang together, and of which none can be
    // left out."
    private static void treesOfWiresThatCanBeLeftOut() {
        trees("a ring of three", 3, NetworksBoundsTest::ring);
        trees("a ring of six", 6, network(6, 0, 1, 1, 2, 2, 3, 3, 4, 4, 5, 5, 0));
        trees("a ring with a tail", 3, network(4, 0, 1, 1, 2, 2, 0, 2, 3));
    }

    // Promises 29 and 30, Terms: "A tree is a set of wires by which all nodes hang together, and of which none can be
    // left out."
    private static void treesOfWiresSideBySide() {
        for (int wires = 0; wires <= 10; wires++) {
            int many = wires;
            trees(many + " side by side", many, () -> sideBySide(many));
        }
        trees("five and five in a row", 25, network(3, 0, 1, 0, 1, 0, 1, 0, 1, 0, 1, 2, 1, 2, 1, 2, 1, 2, 1, 2, 1));
        trees("two and two, and so on, in a row", 32, network(6, 0, 1, 1, 0, 1, 2, 2, 1, 2, 3, 3, 2, 3, 4, 4, 3, 4, 5, 5, 4));
    }

    // Promises 29 and 30, Terms: "A tree is a set of wires by which all nodes hang together"
    private static void treesOfNodesApart() {
        trees("the first apart", 0, network(6, 1, 2, 2, 3, 3, 4, 4, 5, 5, 1, 1, 3, 1, 4, 2, 4, 2, 5, 3, 5));
        trees("the last apart", 0, network(6, 0, 1, 1, 2, 2, 3, 3, 4, 4, 0, 0, 2, 0, 3, 1, 3, 1, 4, 2, 4));
        trees("two rings apart", 0, network(6, 0, 1, 1, 2, 2, 0, 3, 4, 4, 5, 5, 3));
    }

    // Promise 31: "- `from`: a node"
    private static void sideFrom() {
        side(3, NetworksBoundsTest::six, 0, 3, NONE);
        side(2, NetworksBoundsTest::six, 5, 3, NONE);
        Bounds.noIndex("below the first", NetworksBoundsTest::six, x -> x.side(-1, 3, NONE));
        Bounds.noIndex("above the last", NetworksBoundsTest::six, x -> x.side(6, 3, NONE));
    }

    // Promise 31: "- `to`: another one"
    private static void sideTo() {
        side(3, NetworksBoundsTest::six, 3, 0, NONE);
        side(2, NetworksBoundsTest::six, 3, 5, NONE);
        Bounds.noIndex("below the first", NetworksBoundsTest::six, x -> x.side(3, -1, NONE));
        Bounds.noIndex("above the last", NetworksBoundsTest::six, x -> x.side(3, 6, NONE));
        Bounds.noArgument("the same", NetworksBoundsTest::six, x -> x.side(3, 3, NONE));
    }

    // Promise 31: "- `wire`: a wire; NONE for the rectangle"
    private static void sideWire() {
        side(1, NetworksBoundsTest::six, 0, 5, 0);
        side(1, NetworksBoundsTest::six, 0, 5, 4);
        side(5, NetworksBoundsTest::six, 0, 5, NONE);
        Bounds.noIndex("below NONE", NetworksBoundsTest::six, x -> x.side(0, 5, NONE - 1));
        Bounds.noIndex("above the last", NetworksBoundsTest::six, x -> x.side(0, 5, 5));
    }

    // Promise 31: "Throws `IndexOutOfBoundsException` if there is no such node, of either, or wire"
    private static void sideNoSuchNode() {
        for (int node : new int[] {-1, 3, 6, LEAST, MOST}) {
            Bounds.noIndex("side(" + node + ", 0, 0)", NetworksBoundsTest::ring, x -> x.side(node, 0, 0));
            Bounds.noIndex("side(0, " + node + ", NONE)", NetworksBoundsTest::ring, x -> x.side(0, node, NONE));
        }
        side(5, NetworksBoundsTest::six, 5, 0, NONE);
        side(5, NetworksBoundsTest::six, 0, 5, NONE);
        Bounds.noIndex("one beyond 6", NetworksBoundsTest::six, x -> x.side(6, 0, 0));
        Bounds.noIndex("one beyond 6", NetworksBoundsTest::six, x -> x.side(0, 6, 0));
    }

    // Promise 31: "Throws `IndexOutOfBoundsException` if there is no such node, of either, or wire"
    private static void sideNoSuchWire() {
        for (int wire : new int[] {-2, 3, 9, 10, LEAST, MOST}) {
            Bounds.noIndex("side(0, 1, " + wire + ")", NetworksBoundsTest::ring, x -> x.side(0, 1, wire));
        }
        side(2, NetworksBoundsTest::ring, 0, 1, 0);
        side(-1, NetworksBoundsTest::ring, 0, 1, 2);
        side(1, NetworksBoundsTest::ten, 0, 1, 9);
        Bounds.noIndex("one beyond 10", NetworksBoundsTest::ten, x -> x.side(0, 1, 10));
        Bounds.noIndex("none yet", Bounds::fresh, x -> x.side(0, 1, 0));
    }

    // Promise 31: "Throws `IllegalArgumentException` if both nodes are the same"
    private static void sideOfTheSame() {
        for (int node = 0; node < 3; node++) {
            int at = node;
            Bounds.noArgument("side(" + at + ", " + at + ", 0)", NetworksBoundsTest::ring, x -> x.side(at, at, 0));
            Bounds.noArgument("side(" + at + ", " + at + ", NONE)", NetworksBoundsTest::ring, x -> x.side(at, at, NONE));
        }
        Bounds.noArgument("the last of 6", NetworksBoundsTest::six, x -> x.side(5, 5, 4));
    }

    // Promise 31: "Throws `IllegalStateException` if the network has no tree"
    private static void sideOfNoTree() {
        Bounds.noState("no wires", Bounds::fresh, x -> x.side(0, 1, NONE));
        Bounds.Maker tooFew = network(3, 0, 1);
        Bounds.noState("the third apart", tooFew, x -> x.side(0, 1, 0));
        Bounds.noState("the third apart", tooFew, x -> x.side(0, 1, NONE));
        Bounds.noState("the third apart", tooFew, x -> x.side(2, 0, NONE));
        Bounds.Maker apart = network(4, 0, 1, 0, 1, 2, 3, 2, 3);
        Bounds.noState("two and two apart", apart, x -> x.side(0, 1, 3));
        Bounds.noState("two and two apart", apart, x -> x.side(0, 3, NONE));
        side(1, network(2, 0, 1), 0, 1, NONE);
    }

    // Promise 31, Terms: "If several apply, the one that the throws clause names first is thrown."
    private static void sideTellsInOrder() {
        Bounds.noIndex("no node, the same, no tree", Bounds::fresh, x -> x.side(2, 2, NONE));
        Bounds.noIndex("no wire, no tree", Bounds::fresh, x -> x.side(0, 1, 0));
        Bounds.noIndex("no wire, the same, no tree", Bounds::fresh, x -> x.side(0, 0, 0));
        Bounds.noIndex("no wire, the same, no tree", Bounds::fresh, x -> x.side(1, 1, -2));
        Bounds.noIndex("no wire, the same", NetworksBoundsTest::ring, x -> x.side(1, 1, 3));
        Bounds.noIndex("no node, the same", NetworksBoundsTest::ring, x -> x.side(3, 3, 0));
        Bounds.noArgument("the same, no tree", Bounds::fresh, x -> x.side(0, 0, NONE));
        Bounds.noArgument("the same, no tree", network(3, 0, 1), x -> x.side(2, 2, 0));
    }

    // Promise 31: "Returns the side of the square of the wire, perhaps below 0; for NONE how high the rectangle is."
    private static void sideOfNoneIsTheHeight() {
        side(1, NetworksBoundsTest::ten, 0, 1, NONE);
        side(1, NetworksBoundsTest::ten, 1, 0, NONE);
        side(2, NetworksBoundsTest::ring, 0, 1, NONE);
        side(2, NetworksBoundsTest::ring, 2, 0, NONE);
        side(4, NetworksBoundsTest::six, 1, 5, NONE);
        side(1, NetworksBoundsTest::six, 3, 2, NONE);
    }

    // Promise 31: "Returns the side of the square of the wire, perhaps below 0"
    private static void sideBelowZero() {
        side(1, NetworksBoundsTest::ten, 0, 1, 0);
        side(-1, NetworksBoundsTest::ten, 1, 0, 0);
        side(-1, NetworksBoundsTest::ring, 0, 1, 1);
        side(-2, NetworksBoundsTest::ring, 1, 0, 0);
        side(-1, NetworksBoundsTest::six, 5, 0, 4);
    }

    // Promise 31, Terms: "that of to is 0, and at each other one the sum, over its wires, of its height less that of
    // the node at the other end, is 0, but how many trees there are at from."
    private static void sideOfZero() {
        side(0, NetworksBoundsTest::six, 1, 2, 0);
        side(1, NetworksBoundsTest::six, 1, 2, 1);
        side(0, NetworksBoundsTest::six, 1, 2, 4);
        // A square of four wires, and the bridge between the two that are alike in height.
        Bounds.Maker bridge = network(4, 0, 1, 0, 2, 1, 3, 2, 3, 1, 2);
        side(0, bridge, 0, 3, 4);
        side(4, bridge, 0, 3, 0);
        side(8, bridge, 0, 3, NONE);
        trees("the bridge", 8, bridge);
    }

    // Promise 31, Terms: "each wire, from its first node to its second one, is a square of it, of the side of the
    // height of the former less that of the latter."
    private static void sideFromFirstToSecond() {
        Bounds.Maker both = network(2, 0, 1, 1, 0);
        side(1, both, 0, 1, 0);
        side(-1, both, 0, 1, 1);
        side(-1, both, 1, 0, 0);
        side(1, both, 1, 0, 1);
    }

    // Promise 31, Terms: "The rectangle of both is as wide as there are trees, and as high as from is"
    private static void sideOfTheGreatestNetworks() {
        // Ten wires: the sums of the wires at from, and at to, are as much as the rectangle is wide.
        Bounds.Maker all = NetworksBoundsTest::eachTwoOfFive;
        side(50, all, 0, 4, NONE);
        side(25, all, 0, 4, 0);
        side(50, all, 0, 4, 3);
        side(0, all, 0, 4, 4);
        side(25, all, 0, 4, 9);
        Bounds.Maker wheel = NetworksBoundsTest::wheel;
        Bounds.due("as wide as the squares at from", 121, wheel, x -> -x.side(5, 0, 4) + x.side(5, 0, 9) - x.side(5, 0, 8));
        side(55, wheel, 5, 0, NONE);
        side(-55, wheel, 5, 0, 4);
    }
}
