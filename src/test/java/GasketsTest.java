import java.util.ArrayDeque;
import java.util.ArrayList;
import java.util.Arrays;
import java.util.HashSet;
import java.util.List;
import java.util.Set;

/** Promises 12 to 19: gasket, turn, curvature, radius, root, count, countAnew, remainders. */
public final class GasketsTest {
    private static final int MILLION = 1000000;

    public static void main(String[] args) {
        numbersAndRanges();
        wrongFours();
        turnByHand();
        turnsUpToTheMost();
        turnRefuses();
        askingRefuses();
        radiusByHand();
        radiusIsOfAFloat();
        rootByHand();
        longWayToTheRoot();
        countByHand();
        countRefuses();
        countsOfOtherGaskets();
        remaindersByHand();
        for (int run = 0; run < 40; run++) {
            runAtWill(run);
        }
        Check.end();
    }

    private static void fours(String when, Koebehall x, int gasket, long... due) {
        for (int place = 0; place < 4; place++) {
            int at = place;
            Check.dueLong(when + ": curvature(" + gasket + ", " + at + ")", due[at], x.curvature(gasket, at));
        }
    }

    private static void roots(String when, Koebehall x, int gasket, long... due) {
        for (int rank = 0; rank < 4; rank++) {
            Check.dueLong(when + ": root(" + gasket + ", " + rank + ")", due[rank], x.root(gasket, rank));
        }
    }

    private static void numbersAndRanges() {
        Koebehall x = new Koebehall();
        Check.due("the first", 0, () -> x.gasket(-1, 2, 2, 3));
        Check.due("at the most", 1, () -> x.gasket(0, MILLION, 0, MILLION));
        Check.due("from the least", 2, () -> x.gasket(3, 2, 2, -1));
        for (int number = 3; number < 8; number++) {
            int due = number;
            Check.due("gasket " + due, due, () -> x.gasket(due, 0, 0, due));
        }
        Check.noState("there are 8", () -> x.gasket(-1, 2, 2, 3));
        Check.noArgument("none of a gasket is told first", () -> x.gasket(1, 1, 1, 1));
        Check.noArgument("out of range is told first", () -> x.gasket(0, 0, MILLION + 1, MILLION + 1));
        fours("the first", x, 0, -1, 2, 2, 3);
        fours("at the most", x, 1, 0, MILLION, 0, MILLION);
        fours("from the least", x, 2, 3, 2, 2, -1);
        fours("the last", x, 7, 7, 0, 0, 7);
        Check.noIndex("no gasket 8", () -> x.curvature(8, 0));
    }

    private static void wrongFours() {
        Koebehall x = new Koebehall();
        Check.noArgument("not twice", () -> x.gasket(-1, 2, 2, 4));
        Check.noArgument("all 0", () -> x.gasket(0, 0, 0, 0));
        Check.noArgument("a sum below 0", () -> x.gasket(1, -2, -2, -3));
        Check.noArgument("a sum below 0", () -> x.gasket(0, 0, -1, -1));
        Check.noArgument("all alike", () -> x.gasket(1, 1, 1, 1));
        int most = MILLION + 1;
        Check.noArgument("a and b above", () -> x.gasket(most, most, 0, 0));
        Check.noArgument("b and c above", () -> x.gasket(0, most, most, 0));
        Check.noArgument("c and d above", () -> x.gasket(0, 0, most, most));
        Check.noArgument("a and d above", () -> x.gasket(most, 0, 0, most));
        // 9, 32, 32 and -7, so often that only the greatest ones, or the least one, are out of range.
        Check.noArgument("only a above", () -> x.gasket(4 * 333334, 333334, 0, 333334));
        Check.noArgument("only b above", () -> x.gasket(333334, 4 * 333334, 0, 333334));
        Check.noArgument("only c above", () -> x.gasket(333334, 333334, 4 * 333334, 0));
        Check.noArgument("only d above", () -> x.gasket(333334, 333334, 0, 4 * 333334));
        Check.noArgument("a below", () -> x.gasket(-1000001, 1000002, 0, 0));
        Check.noArgument("least", () -> x.gasket(Integer.MIN_VALUE, Integer.MIN_VALUE, 0, 0));
        Check.noArgument("most", () -> x.gasket(Integer.MAX_VALUE, Integer.MAX_VALUE, 0, 0));
        // The square of the sum of 65536s wraps round to 0 as an int.
        Check.noArgument("a square beyond an int", () -> x.gasket(65536, 65536, 65536, 65536));
        Check.noArgument("a square beyond an int", () -> x.gasket(65536, 0, 0, 0));
        Check.noIndex("nothing told", () -> x.curvature(0, 0));
        Check.due("the first", 0, () -> x.gasket(-333333, 666666, 666666, 999999));
        Check.due("within the range", 1, () -> x.gasket(0, 250000, 250000, MILLION));
    }

    private static void turnByHand() {
        Koebehall x = new Koebehall();
        x.gasket(-1, 2, 2, 3);
        x.gasket(0, 0, 1, 1);
        Check.due("turn(0, 0)", 15, () -> x.turn(0, 0));
        Check.due("turn(0, 1)", 38, () -> x.turn(0, 1));
        Check.due("turn(0, 3)", 107, () -> x.turn(0, 3));
        fours("after three", x, 0, 15, 38, 2, 107);
        fours("the other one", x, 1, 0, 0, 1, 1);
        Check.due("turn(0, 3)", 3, () -> x.turn(0, 3));
        Check.due("turn(0, 1)", 2, () -> x.turn(0, 1));
        Check.due("turn(0, 0)", -1, () -> x.turn(0, 0));
        Check.due("turn(0, 3), which comes to the same", 3, () -> x.turn(0, 3));
        fours("as at first", x, 0, -1, 2, 2, 3);
        Check.due("turn(1, 2)", 1, () -> x.turn(1, 2));
        Check.due("turn(1, 0)", 4, () -> x.turn(1, 0));
        Check.due("turn(1, 0)", 0, () -> x.turn(1, 0));
    }

    private static void turnsUpToTheMost() {
        Koebehall x = new Koebehall();
        x.gasket(0, 100000, 100000, 0);
        int[] places = {3, 1, 2, 3, 1, 3, 2, 1, 3, 2, 1, 3, 2, 1, 3, 2, 1, 2, 3, 2, 3, 1, 3, 2};
        for (int place : places) {
            x.turn(0, place);
        }
        Check.due("just the most", 1000000000000000L, () -> x.turn(0, 3));
        Check.due("radius", 1.0f / 1e15f, () -> x.radius(0, 3));
        Check.noState("above", () -> x.turn(0, 2));
        Check.noState("above", () -> x.turn(0, 0));
        Check.due("unchanged", 1000000000000000L, () -> x.curvature(0, 3));
        Check.due("unchanged", 0, () -> x.curvature(0, 0));
        roots("from the most", x, 0, 0, 0, 100000, 100000);
        Koebehall y = new Koebehall();
        y.gasket(-7, 20, 12, 17);
        String path = "12312312313131212121232321312321212121313131313131313";
        for (int at = 0; at < path.length() - 1; at++) {
            y.turn(0, path.charAt(at) - '0');
        }
        long before = y.curvature(0, 3);
        Check.noState("one above", () -> y.turn(0, 3));
        Check.due("unchanged", before, () -> y.curvature(0, 3));
        roots("from below the most", y, 0, -7, 12, 17, 20);
        Check.holds("turned back", () -> y.turn(0, 1) < 1000000000000000L);
    }

    private static void turnRefuses() {
        Koebehall x = new Koebehall();
        Check.noIndex("no gasket yet", () -> x.turn(0, 0));
        x.gasket(-1, 2, 2, 3);
        Check.noIndex("turn(-1, 0)", () -> x.turn(-1, 0));
        Check.noIndex("turn(1, 0)", () -> x.turn(1, 0));
        Check.noIndex("turn(0, -1)", () -> x.turn(0, -1));
        Check.noIndex("turn(0, 4)", () -> x.turn(0, 4));
        Check.noIndex("turn(most, least)", () -> x.turn(Integer.MAX_VALUE, Integer.MIN_VALUE));
        fours("unchanged", x, 0, -1, 2, 2, 3);
    }

    private static void askingRefuses() {
        Koebehall x = new Koebehall();
        x.gasket(-1, 2, 2, 3);
        int[] wrong = {-1, 1, 8, Integer.MAX_VALUE, Integer.MIN_VALUE};
        for (int gasket : wrong) {
            Check.noIndex("curvature(" + gasket + ", 0)", () -> x.curvature(gasket, 0));
            Check.noIndex("radius(" + gasket + ", 0)", () -> x.radius(gasket, 0));
            Check.noIndex("root(" + gasket + ", 0)", () -> x.root(gasket, 0));
            Check.noIndex("remainders(" + gasket + ", 2)", () -> x.remainders(gasket, 2));
        }
        int[] places = {-1, 4, Integer.MAX_VALUE, Integer.MIN_VALUE};
        for (int place : places) {
            Check.noIndex("curvature(0, " + place + ")", () -> x.curvature(0, place));
            Check.noIndex("radius(0, " + place + ")", () -> x.radius(0, place));
            Check.noIndex("root(0, " + place + ")", () -> x.root(0, place));
        }
        int[] divisors = {1, 0, -1, 9, Integer.MAX_VALUE, Integer.MIN_VALUE};
        for (int by : divisors) {
            Check.noArgument("remainders(0, " + by + ")", () -> x.remainders(0, by));
            Check.noIndex("an index is told first", () -> x.remainders(1, by));
        }
    }

    private static void radiusByHand() {
        Koebehall x = new Koebehall();
        x.gasket(-1, 2, 2, 3);
        x.gasket(0, 0, 8, 8);
        x.gasket(-6, 11, 14, 15);
        Check.due("below 0", -1.0, () -> x.radius(0, 0));
        Check.due("a half", 0.5, () -> x.radius(0, 2));
        Check.due("a third", 1.0f / 3.0f, () -> x.radius(0, 3));
        Check.due("infinite", Double.POSITIVE_INFINITY, () -> x.radius(1, 0));
        Check.due("infinite", Double.POSITIVE_INFINITY, () -> x.radius(1, 1));
        Check.due("an eighth", 0.125, () -> x.radius(1, 3));
        Check.due("a sixth, below 0", -0.1666666716337204, () -> x.radius(2, 0));
        x.turn(0, 0);
        Check.due("a fifteenth", 0.06666667014360428, () -> x.radius(0, 0));
    }

    /** The curvature is made a float first: by way of a double, or by a double's division, another one comes. */
    private static void radiusIsOfAFloat() {
        Koebehall x = new Koebehall();
        int unlike = 0;
        for (int gasket = 0; gasket < 8; gasket++) {
            int k = 999999 - 2 * gasket;
            x.gasket(0, k, k, 0);
            // 4, 9, 16 and so on, times k: above 16777216 no float has all whole numbers.
            for (int step = 0; step < 20; step++) {
                int place = step % 2 == 0 ? 3 : 1;
                long c = x.turn(gasket, place);
                int at = gasket;
                Check.due("radius of " + c, 1.0f / (float) c, () -> x.radius(at, place));
                unlike += 1.0f / (float) c != (float) (1.0 / (double) c) ? 1 : 0;
            }
        }
        int found = unlike;
        Check.holds("some of these tell floats from doubles", () -> found > 0);
    }

    private static void rootByHand() {
        Koebehall x = new Koebehall();
        x.gasket(15, 38, 2, 107);
        roots("of three turns", x, 0, -1, 2, 2, 3);
        fours("asking the root changes nothing", x, 0, 15, 38, 2, 107);
        x.gasket(6, 3, -2, 7);
        roots("the root itself", x, 1, -2, 3, 6, 7);
        x.gasket(9, 4, 0, 1);
        roots("of a strip", x, 2, 0, 0, 1, 1);
        x.turn(0, 1);
        x.turn(0, 0);
        x.turn(1, 0);
        x.turn(1, 2);
        roots("turns do not change it", x, 0, -1, 2, 2, 3);
        roots("turns do not change it", x, 1, -2, 3, 6, 7);
    }

    private static void longWayToTheRoot() {
        Koebehall x = new Koebehall();
        // Neighbours in the row of squares: nearly 1000 turns from the root.
        x.gasket(0, 1, 998001, 1000000);
        roots("of a long way", x, 0, 0, 0, 1, 1);
        x.gasket(998003, 2, 996006, -1);
        roots("of a long way in a circle", x, 1, -1, 2, 2, 3);
        for (int step = 0; step < 400; step++) {
            x.turn(0, step % 2 == 0 ? 2 : 3);
        }
        roots("of a longer way", x, 0, 0, 0, 1, 1);
        Check.due("turned up", 1399L * 1399L, () -> x.curvature(0, 2));
        Check.due("turned up", 1400L * 1400L, () -> x.curvature(0, 3));
    }

    private static void both(Koebehall x, int gasket, int bound, int due) {
        Check.due("count(" + gasket + ", " + bound + ")", due, () -> x.count(gasket, bound));
        Check.due("countAnew(" + gasket + ", " + bound + ")", due, () -> x.countAnew(gasket, bound));
    }

    private static void countByHand() {
        Koebehall x = new Koebehall();
        x.gasket(-1, 2, 2, 3);
        both(x, 0, 1, 1);
        both(x, 0, 2, 3);
        both(x, 0, 3, 5);
        both(x, 0, 5, 5);
        both(x, 0, 6, 9);
        both(x, 0, 10, 9);
        both(x, 0, 11, 13);
        both(x, 0, 14, 17);
        both(x, 0, 15, 19);
        both(x, 0, 38, 53);
        x.turn(0, 0);
        x.turn(0, 2);
        both(x, 0, 38, 53);
        fours("counting changes nothing", x, 0, 15, 2, 38, 3);
        x.gasket(7, -2, 6, 3);
        both(x, 1, 1, 1);
        both(x, 1, 6, 3);
        both(x, 1, 7, 5);
        both(x, 1, 1000, 1301);
    }

    private static void countRefuses() {
        Koebehall x = new Koebehall();
        x.gasket(-1, 2, 2, 3);
        x.gasket(0, 0, 1, 1);
        x.gasket(4, 9, 1, 0);
        int[] bounds = {0, -1, 1001, Integer.MAX_VALUE, Integer.MIN_VALUE};
        for (int bound : bounds) {
            Check.noArgument("count(0, " + bound + ")", () -> x.count(0, bound));
            Check.noArgument("countAnew(0, " + bound + ")", () -> x.countAnew(0, bound));
            Check.noArgument("an argument is told ahead of no bound", () -> x.count(1, bound));
            Check.noArgument("an argument is told ahead of no bound", () -> x.countAnew(1, bound));
            Check.noIndex("an index is told first", () -> x.count(3, bound));
            Check.noIndex("an index is told first", () -> x.countAnew(-1, bound));
        }
        for (int gasket = 1; gasket < 3; gasket++) {
            int asked = gasket;
            Check.noState("a strip", () -> x.count(asked, 5));
            Check.noState("a strip", () -> x.countAnew(asked, 1000));
        }
        Check.noIndex("count(3, 5)", () -> x.count(3, 5));
        Check.noIndex("count(-1, 5)", () -> x.count(-1, 5));
        Check.noIndex("countAnew(3, 5)", () -> x.countAnew(3, 5));
        Check.noIndex("countAnew(-1, 5)", () -> x.countAnew(-1, 5));
        Check.due("count(0, 1000)", countOf(new long[] {-1, 2, 2, 3}, 1000), () -> x.count(0, 1000));
        Check.due("countAnew(0, 1000)", countOf(new long[] {-1, 2, 2, 3}, 1000), () -> x.countAnew(0, 1000));
    }

    /** Counts all rows of turns one by one, with a list of those whose last curvature is not above the bound. */
    private static int countOf(long[] root, int bound) {
        int found = 0;
        for (long one : root) {
            found += one <= bound ? 1 : 0;
        }
        ArrayDeque<long[]> open = new ArrayDeque<>();
        open.add(new long[] {root[0], root[1], root[2], root[3], -1});
        while (!open.isEmpty()) {
            long[] row = open.remove();
            for (int place = 0; place < 4; place++) {
                long[] next = row.clone();
                next[place] = 2 * (row[0] + row[1] + row[2] + row[3]) - 3 * row[place];
                next[4] = place;
                if (row[4] != place && next[place] <= bound) {
                    found++;
                    open.add(next);
                }
            }
        }
        return found;
    }

    private static void countsOfOtherGaskets() {
        int[][] fours = {{-3, 5, 8, 8}, {-3, 4, 12, 13}, {-4, 8, 9, 9}, {-5, 7, 18, 18}, {-6, 10, 15, 19},
            {-6, 11, 14, 15}, {-30, 31, 930, 931}, {-2, 4, 4, 6}, {-31, 32, 992, 993}};
        for (int[] four : fours) {
            Koebehall x = new Koebehall();
            x.gasket(four[2], four[0], four[3], four[1]);
            long[] root = {four[0], four[1], four[2], four[3]};
            for (int bound = 1; bound <= 1000; bound += bound < 40 ? 1 : 37) {
                both(x, 0, bound, countOf(root, bound));
            }
            both(x, 0, 1000, countOf(root, 1000));
        }
        Koebehall x = new Koebehall();
        x.gasket(-1000, 2000, 2000, 3000);
        both(x, 0, 1000, 1);
        x.gasket(-333, 666, 666, 999);
        both(x, 1, 1000, 5);
        both(x, 1, 666, 3);
        both(x, 1, 998, 3);
    }

    private static void remaindersByHand() {
        Koebehall x = new Koebehall();
        x.gasket(-1, 2, 2, 3);
        Check.due("by 2", 3, () -> x.remainders(0, 2));
        Check.due("by 3", 5, () -> x.remainders(0, 3));
        Check.due("by 8", 204, () -> x.remainders(0, 8));
        x.gasket(0, 0, 1, 1);
        Check.due("by 4", 3, () -> x.remainders(1, 4));
        x.gasket(0, 0, 8, 8);
        Check.due("all 0", 1, () -> x.remainders(2, 8));
        Check.due("all 0", 1, () -> x.remainders(2, 2));
        Check.due("by 7", remaindersOf(new long[] {0, 0, 8, 8}, 7), () -> x.remainders(2, 7));
        x.turn(0, 0);
        Check.due("turned", 204, () -> x.remainders(0, 8));
        fours("asking changes nothing", x, 0, 15, 2, 2, 3);
    }

    private static int remaindersOf(long[] four, int by) {
        Set<List<Long>> seen = new HashSet<>();
        ArrayDeque<List<Long>> open = new ArrayDeque<>();
        List<Long> first = new ArrayList<>();
        for (long one : four) {
            first.add(Math.floorMod(one, (long) by));
        }
        open.add(first);
        seen.add(first);
        int found = 0;
        while (!open.isEmpty()) {
            List<Long> at = open.remove();
            long sum = 0;
            for (long one : at) {
                sum += one;
                found |= 1 << one;
            }
            for (int place = 0; place < 4; place++) {
                List<Long> next = new ArrayList<>(at);
                next.set(place, Math.floorMod(2 * sum - 3 * at.get(place), (long) by));
                if (seen.add(next)) {
                    open.add(next);
                }
            }
        }
        return found;
    }

    /** A gasket found by turns at will from some root, and more turns; the model keeps its four by the words. */
    private static void runAtWill(int run) {
        long[][] all = {{-1, 2, 2, 3}, {0, 0, 1, 1}, {-2, 3, 6, 7}, {-3, 5, 8, 8}, {0, 0, 5, 5}, {-6, 10, 15, 19},
            {-12, 21, 28, 37}, {-8, 13, 21, 24}, {-10, 18, 23, 27}};
        long[] root = all[run % all.length].clone();
        Koebehall x = new Koebehall();
        long[] four = shuffled(root);
        for (int step = 0; step < 5; step++) {
            int place = Check.pick(4);
            long turned = turned(four, place);
            if (turned <= MILLION) {
                four[place] = turned;
            }
        }
        Check.dueLong("gasket", 0, x.gasket((int) four[0], (int) four[1], (int) four[2], (int) four[3]));
        for (int step = 0; step < 40; step++) {
            int place = Check.pick(4);
            long turned = turned(four, place);
            if (turned <= 1000000000000000L) {
                four[place] = turned;
                Check.dueLong("run " + run + " turn", turned, x.turn(0, place));
            } else {
                Check.noState("run " + run + " turn", () -> x.turn(0, place));
            }
            if (step % 10 == 9) {
                fours("run " + run, x, 0, four);
                roots("run " + run, x, 0, root);
            }
        }
        for (int by = 2; by <= 8; by++) {
            Check.dueLong("run " + run + " remainders by " + by, remaindersOf(four, by), x.remainders(0, by));
        }
        if (root[0] < 0) {
            int bound = Check.pickFrom(1, 300);
            both(x, 0, bound, countOf(root, bound));
        } else {
            Check.noState("not bounded", () -> x.count(0, 1));
        }
    }

    private static long turned(long[] four, int place) {
        return 2 * Arrays.stream(four).sum() - 3 * four[place];
    }

    private static long[] shuffled(long[] root) {
        long[] four = root.clone();
        for (int at = 3; at > 0; at--) {
            int other = Check.pick(at + 1);
            long kept = four[at];
            four[at] = four[other];
            four[other] = kept;
        }
        return four;
    }
}
