import java.util.List;

/** The sentences of the Terms that bind every call, where they end; each test is headed by the sentence that it is of. */
public final class TermsBoundsTest {
    private static final int NONE = Koebehall.NONE;
    private static final int BILLION = 1000000000;
    private static final int LAST_CALL = 512;

    public static void main(String[] args) {
        constants();
        lastCallOfTurns();
        lastCallOfAppends();
        lastCallOfFlips();
        lastCallOfMoves();
        lastCallOfNetworks();
        lastCallBehindRefusedOnes();
        askingTheNet();
        askingTheDisks();
        askingTheGaskets();
        askingTheFractions();
        askingTheWord();
        askingTheNetwork();
        askingInVain();
        objectsAreApart();
        Check.end();
    }

    /** All that can be told, as much of each that a change of any is seen. */
    private static Koebehall hall() {
        Koebehall x = new Koebehall();
        x.split(0);
        x.split(2);
        x.flip(0, 1);
        x.disk(0, 0, 23);
        x.disk(69, 0, 46);
        x.disk(0, 92, 69);
        x.disk(21, 20, 6);
        x.gasket(-1, 2, 2, 3);
        x.gasket(0, 0, 1, 1);
        x.turn(0, 0);
        x.turn(1, 1);
        x.tell(2, 1, 1, 1);
        x.tell(0, -1, 1, 0);
        x.append(0, false);
        x.append(1, true);
        x.nodes(3);
        x.wire(0, 1);
        x.wire(1, 2);
        x.wire(2, 0);
        return x;
    }

    private static void asks(String what, Bounds.Asked asked) {
        Bounds.changesNothing(what, TermsBoundsTest::hall, asked);
        Bounds.changesNothing(what + " of a new object", Bounds::fresh, asked);
    }

    // Promises 5, 9 and 31, Terms: "The constants: `NONE = -1`: There is none.", and "`APART = 0, TOUCH = 1, OVERLAP =
    // 2`: How two circles lie."
    private static void constants() {
        Check.due("NONE", -1, () -> Koebehall.NONE);
        Check.due("APART", 0, () -> Koebehall.APART);
        Check.due("TOUCH", 1, () -> Koebehall.TOUCH);
        Check.due("OVERLAP", 2, () -> Koebehall.OVERLAP);
    }

    // Promise 13, What it is: "An object is used for at most 512 calls after it has been made; what later calls answer
    // is free."
    private static void lastCallOfTurns() {
        Koebehall x = new Koebehall();
        x.gasket(0, 1, 0, 1);
        // The places 2 and 3 hold the squares of 0 and 1, of 2 and 1, of 2 and 3, and so on.
        long due = 0;
        for (int call = 2; call <= LAST_CALL; call++) {
            due = (long) call * call;
            Check.dueLong("turn " + call, due, x.turn(0, call % 2 == 0 ? 2 : 3));
        }
        Check.dueLong("the last one", 512L * 512L, due);
    }

    // Promises 23 and 25, What it is: "An object is used for at most 512 calls after it has been made; what later calls
    // answer is free."
    private static void lastCallOfAppends() {
        Koebehall x = new Koebehall();
        x.tell(1, 1000, 0, 1);
        for (int call = 2; call < LAST_CALL; call++) {
            Check.due("append " + call, 2, () -> x.append(0, false));
        }
        Check.due("the last call", 510000, () -> x.word(1));
    }

    // Promise 3, What it is: "An object is used for at most 512 calls after it has been made; what later calls answer
    // is free."
    private static void lastCallOfFlips() {
        Koebehall x = new Koebehall();
        x.split(0);
        for (int call = 2; call <= LAST_CALL; call++) {
            boolean isJoined = call % 2 == 0;
            Check.due("flip " + call, isJoined ? 304 : 1, () -> isJoined ? x.flip(0, 1) : x.flip(4, 3));
        }
    }

    // Promises 8 and 9, What it is: "An object is used for at most 512 calls after it has been made; what later calls
    // answer is free."
    private static void lastCallOfMoves() {
        Koebehall x = new Koebehall();
        x.disk(0, 0, 1);
        x.disk(0, 0, 1);
        for (int call = 3; call < LAST_CALL; call++) {
            int radius = call;
            Check.due("move " + call, call == 3 ? 1 : radius - 1, () -> x.move(1, radius + 1, 0, radius));
        }
        Check.due("the last call", Koebehall.TOUCH, () -> x.lie(1, 0));
    }

    // Promises 27 to 30, What it is: "An object is used for at most 512 calls after it has been made; what later calls
    // answer is free."
    private static void lastCallOfNetworks() {
        Koebehall x = new Koebehall();
        int calls = 0;
        while (calls + 12 < LAST_CALL) {
            Check.due("nodes", calls == 0 ? 2 : 5, () -> x.nodes(5));
            for (int wire = 0; wire < 10; wire++) {
                int at = wire;
                Check.due("wire", at, () -> x.wire(at % 5, (at + 1 + at / 5) % 5));
            }
            Check.due("trees", 125, () -> x.trees());
            calls += 12;
        }
        while (calls + 1 < LAST_CALL) {
            Check.due("side", 50, () -> x.side(0, 1, NONE));
            calls++;
        }
        Check.due("the last call", 125, () -> x.treesAnew());
    }

    // Promise 2, What it is: "An object is used for at most 512 calls after it has been made; what later calls answer
    // is free."
    private static void lastCallBehindRefusedOnes() {
        Koebehall x = new Koebehall();
        for (int call = 1; call < LAST_CALL; call++) {
            Check.noIndex("split " + call, () -> x.split(4));
        }
        Check.due("the last call", 4, () -> x.split(3));
    }

    // Promises 4 to 6, Terms: "Nets, disks, gaskets, words and networks are told; all else is asked, which changes
    // nothing."
    private static void askingTheNet() {
        for (int what = 0; what <= 4; what++) {
            int at = what;
            asks("net(" + at + ")", x -> x.net(at));
        }
        asks("corner(0, 0)", x -> x.corner(0, 0));
        asks("corner(3, 2)", x -> x.corner(3, 2));
        asks("around(0, 0)", x -> x.around(0, 0));
        asks("around(3, 2)", x -> x.around(3, 2));
        asks("around(3, 99)", x -> x.around(3, 99));
    }

    // Promises 9 to 11, Terms: "Nets, disks, gaskets, words and networks are told; all else is asked, which changes
    // nothing."
    private static void askingTheDisks() {
        asks("lie(0, 3)", x -> x.lie(0, 3));
        asks("lie(3, 0)", x -> x.lie(3, 0));
        for (int how = 0; how < 3; how++) {
            int at = how;
            asks("pairs(" + at + ")", x -> x.pairs(at));
        }
        asks("draws()", x -> x.draws());
    }

    // Promises 14 to 19, Terms: "Nets, disks, gaskets, words and networks are told; all else is asked, which changes
    // nothing."
    private static void askingTheGaskets() {
        for (int gasket = 0; gasket < 2; gasket++) {
            int at = gasket;
            for (int place = 0; place < 4; place++) {
                int next = place;
                asks("curvature(" + at + ", " + next + ")", x -> x.curvature(at, next));
                asks("radius(" + at + ", " + next + ")", x -> x.radius(at, next));
                asks("root(" + at + ", " + next + ")", x -> x.root(at, next));
            }
            for (int bound : new int[] {1, 40, 200}) {
                asks("count(" + at + ", " + bound + ")", x -> x.count(at, bound));
                asks("countAnew(" + at + ", " + bound + ")", x -> x.countAnew(at, bound));
            }
            for (int by = 2; by <= 8; by++) {
                int divisor = by;
                asks("remainders(" + at + ", " + divisor + ")", x -> x.remainders(at, divisor));
            }
        }
    }

    // Promises 20 and 21, Terms: "Nets, disks, gaskets, words and networks are told; all else is asked, which changes
    // nothing."
    private static void askingTheFractions() {
        asks("ford(1, 2, 1, 3)", x -> x.ford(1, 2, 1, 3));
        asks("ford(1, 2, 1, 2)", x -> x.ford(1, 2, 1, 2));
        asks("between(1, 2, 1, 3, true)", x -> x.between(1, 2, 1, 3, true));
        asks("between of the ends", x -> x.between(-BILLION, 999999999, BILLION, 1, false));
    }

    // Promises 25 and 26, Terms: "Nets, disks, gaskets, words and networks are told; all else is asked, which changes
    // nothing."
    private static void askingTheWord() {
        for (int what = 0; what <= 4; what++) {
            int at = what;
            asks("word(" + at + ")", x -> x.word(at));
        }
        asks("image(1, 0, true)", x -> x.image(1, 0, true));
        asks("image(-3, 2, false)", x -> x.image(-3, 2, false));
    }

    // Promises 29 to 31, Terms: "Nets, disks, gaskets, words and networks are told; all else is asked, which changes
    // nothing."
    private static void askingTheNetwork() {
        asks("trees()", x -> x.trees());
        asks("treesAnew()", x -> x.treesAnew());
        for (int wire = NONE; wire < 3; wire++) {
            int at = wire;
            asks("side(0, 1, " + at + ")", x -> x.side(0, 1, at));
            asks("side(2, 1, " + at + ")", x -> x.side(2, 1, at));
        }
    }

    // Promises 4 to 31, Terms: "A call that throws an exception changes nothing.", of the calls that ask
    private static void askingInVain() {
        Bounds.noIndex("corner", TermsBoundsTest::hall, x -> x.corner(8, 0));
        Bounds.noIndex("around", TermsBoundsTest::hall, x -> x.around(0, -1));
        Bounds.noIndex("net", TermsBoundsTest::hall, x -> x.net(5));
        Bounds.noIndex("lie", TermsBoundsTest::hall, x -> x.lie(0, 4));
        Bounds.noArgument("lie", TermsBoundsTest::hall, x -> x.lie(3, 3));
        Bounds.noArgument("pairs", TermsBoundsTest::hall, x -> x.pairs(3));
        Bounds.noIndex("curvature", TermsBoundsTest::hall, x -> x.curvature(2, 0));
        Bounds.noIndex("radius", TermsBoundsTest::hall, x -> x.radius(0, 4));
        Bounds.noIndex("root", TermsBoundsTest::hall, x -> x.root(0, 4));
        Bounds.noIndex("count", TermsBoundsTest::hall, x -> x.count(2, 1));
        Bounds.noArgument("count", TermsBoundsTest::hall, x -> x.count(0, 1001));
        Bounds.noState("count", TermsBoundsTest::hall, x -> x.count(1, 1000));
        Bounds.noIndex("countAnew", TermsBoundsTest::hall, x -> x.countAnew(2, 1));
        Bounds.noArgument("countAnew", TermsBoundsTest::hall, x -> x.countAnew(0, 0));
        Bounds.noState("countAnew", TermsBoundsTest::hall, x -> x.countAnew(1, 1));
        Bounds.noArgument("remainders", TermsBoundsTest::hall, x -> x.remainders(0, 9));
        Bounds.noArgument("ford", TermsBoundsTest::hall, x -> x.ford(2, 4, 1, 1));
        Bounds.noArgument("between", TermsBoundsTest::hall, x -> x.between(1, 2, 1, 2, true));
        Bounds.noIndex("word", TermsBoundsTest::hall, x -> x.word(5));
        Bounds.noArgument("image", TermsBoundsTest::hall, x -> x.image(-1, 0, true));
        Bounds.noIndex("side", TermsBoundsTest::hall, x -> x.side(0, 1, 3));
        Bounds.noArgument("side", TermsBoundsTest::hall, x -> x.side(1, 1, 0));
        Bounds.noState("side", Bounds::fresh, x -> x.side(0, 1, NONE));
    }

    // Promise 1: "The net of four corners; nothing else.", whatever another object was told
    private static void objectsAreApart() {
        Koebehall before = new Koebehall();
        List<String> due = Bounds.allAnswers(new Koebehall());
        hall();
        Check.holds("an object made before", () -> due.equals(Bounds.allAnswers(before)));
        Check.holds("an object made behind", () -> due.equals(Bounds.allAnswers(new Koebehall())));
    }
}
