import java.math.BigInteger;
import java.util.ArrayList;
import java.util.Arrays;
import java.util.List;

/** Promises 12 to 21 as their sentences say what a call is for; each test is headed by the sentence that it is of. */
public final class GasketsSentencesTest {
    private static final int[][] ROOTS = {{-1, 2, 2, 3}, {-2, 3, 6, 7}, {-3, 5, 8, 8}, {-6, 11, 14, 15}, {-4, 5, 20, 21}};

    public static void main(String[] args) {
        wholeByMovesOfFour();
        tellsAGasket();
        turnsOneOfTheFour();
        returnsOneOfTheFour();
        circlesOfAllRows();
        circlesFromThrees();
        circlesOfFractions();
        tellsHowTheCirclesLie();
        returnsTheGreatestCircleBetween();
        Check.end();
    }

    private static long[] four(Koebehall x, int gasket) {
        long[] found = new long[4];
        for (int place = 0; place < 4; place++) {
            found[place] = x.curvature(gasket, place);
        }
        return found;
    }

    private static void fourAre(String what, Koebehall x, int gasket, long... due) {
        for (int place = 0; place < 4; place++) {
            int at = place;
            Check.dueLong(what + ": curvature(" + gasket + ", " + at + ")", due[at], x.curvature(gasket, at));
        }
    }

    /** The square of the sum less twice the sum of the squares. */
    private static BigInteger offTheSquare(long[] four) {
        BigInteger sum = BigInteger.ZERO;
        BigInteger squares = BigInteger.ZERO;
        for (long one : four) {
            sum = sum.add(BigInteger.valueOf(one));
            squares = squares.add(BigInteger.valueOf(one).pow(2));
        }
        return sum.pow(2).subtract(squares.shiftLeft(1));
    }

    // What it is: "A hall of circles that touch: nets of triangles that are split and flipped, disks in whole numbers
    // that draw them, gaskets whose curvatures are whole by moves of four, circles of fractions, words of moves that keep
    // fractions apart, and rectangles of squares that come of networks."
    private static void wholeByMovesOfFour() {
        for (int[] root : ROOTS) {
            Koebehall x = new Koebehall();
            x.gasket(root[0], root[1], root[2], root[3]);
            for (int step = 0; step < 60; step++) {
                int place = Check.pick(4);
                try {
                    x.turn(0, place);
                } catch (IllegalStateException above) {
                    x.turn(0, greatest(four(x, 0)));
                }
                Check.dueLong("still of a gasket", 0, offTheSquare(four(x, 0)).signum());
            }
        }
    }

    private static int greatest(long[] four) {
        int found = 0;
        for (int place = 1; place < 4; place++) {
            found = four[place] > four[found] ? place : found;
        }
        return found;
    }

    // Promise 12: "Tells a gasket."
    private static void tellsAGasket() {
        Koebehall x = new Koebehall();
        Check.due("the first", 0, () -> x.gasket(3, -1, 2, 2));
        Check.due("the second", 1, () -> x.gasket(3, -1, 2, 2));
        Check.due("the third", 2, () -> x.gasket(0, 7, 7, 0));
        fourAre("as told", x, 0, 3, -1, 2, 2);
        fourAre("as told", x, 2, 0, 7, 7, 0);
        x.turn(0, 1);
        fourAre("turned", x, 0, 3, 15, 2, 2);
        fourAre("told alike, but another one", x, 1, 3, -1, 2, 2);
    }

    // Promise 13: "Turns one of the four."
    private static void turnsOneOfTheFour() {
        for (int[] root : ROOTS) {
            for (int place = 0; place < 4; place++) {
                Koebehall x = new Koebehall();
                x.gasket(root[0], root[1], root[2], root[3]);
                long[] due = Arrays.stream(root).asLongStream().toArray();
                due[place] = 2 * (due[0] + due[1] + due[2] + due[3]) - 3 * due[place];
                int at = place;
                Check.dueLong("turn(0, " + at + ")", due[at], x.turn(0, at));
                fourAre("turned at " + at, x, 0, due);
                Check.dueLong("turned again", root[at], x.turn(0, at));
            }
        }
    }

    // Promise 14: "Returns one of the four."
    private static void returnsOneOfTheFour() {
        Koebehall x = new Koebehall();
        for (int[] root : ROOTS) {
            x.gasket(root[2], root[0], root[3], root[1]);
        }
        for (int gasket = 0; gasket < ROOTS.length; gasket++) {
            int[] root = ROOTS[gasket];
            fourAre("told", x, gasket, root[2], root[0], root[3], root[1]);
        }
    }

    /** What the last turn of each row of so many turns comes to, by turns of objects of their own. */
    private static List<Long> endsOfRows(int[] root, int turns) {
        List<Long> found = new ArrayList<>();
        int rows = 1;
        for (int turn = 0; turn < turns; turn++) {
            rows *= 4;
        }
        for (int row = 0; row < rows; row++) {
            int[] places = new int[turns];
            boolean isTwice = false;
            for (int turn = 0; turn < turns; turn++) {
                places[turn] = row >> 2 * turn & 3;
                isTwice |= turn > 0 && places[turn] == places[turn - 1];
            }
            if (isTwice) {
                continue;
            }
            Koebehall x = new Koebehall();
            x.gasket(root[0], root[1], root[2], root[3]);
            long last = 0;
            for (int place : places) {
                last = x.turn(0, place);
            }
            found.add(last);
        }
        return found;
    }

    // Promises 17 and 18, Terms: "Its circles are the four of the root, those with a curvature of 0 or below with them,
    // and for each row of turns, done one behind the other from the root on, no place being turned twice one behind the
    // other, one more, with the curvature that comes of the last turn of the row."
    private static void circlesOfAllRows() {
        for (int[] root : ROOTS) {
            List<Long> circles = new ArrayList<>();
            for (int one : root) {
                circles.add((long) one);
            }
            for (int turns = 1; turns <= 5; turns++) {
                circles.addAll(endsOfRows(root, turns));
            }
            long beyond = endsOfRows(root, 6).stream().mapToLong(one -> one).min().orElse(0);
            Koebehall x = new Koebehall();
            x.gasket(root[0], root[1], root[2], root[3]);
            // Below the least that six turns come to, rows of five turns are enough.
            for (int bound = 1; bound < beyond && bound <= 60; bound++) {
                int asked = bound;
                long due = circles.stream().filter(one -> one <= asked).count();
                Check.due("count(0, " + asked + ")", due, () -> x.count(0, asked));
                Check.due("countAnew(0, " + asked + ")", due, () -> x.countAnew(0, asked));
            }
            Check.holds("some bounds are asked", () -> beyond > 30);
        }
    }

    /** The curvature of the circle between three that touch. */
    private static long inner(long a, long b, long c) {
        BigInteger[] root = BigInteger.valueOf(a * b + b * c + c * a).sqrtAndRemainder();
        Check.dueLong("the root is whole", 0, root[1].signum());
        return a + b + c + 2 * root[0].longValueExact();
    }

    // Promise 18: "Counts the same, found from three circles that touch and the one between them: its curvature is the
    // sum of theirs, and twice the root of the sum of their products by two, together."
    private static void circlesFromThrees() {
        for (int[] root : ROOTS) {
            Koebehall x = new Koebehall();
            x.gasket(root[3], root[2], root[1], root[0]);
            int a = root[0];
            int b = root[1];
            int c = root[2];
            int d = root[3];
            long[] first = {inner(b, c, d), inner(a, c, d), inner(a, b, d), inner(a, b, c)};
            for (int place = 0; place < 4; place++) {
                Koebehall turned = new Koebehall();
                turned.gasket(a, b, c, d);
                Check.dueLong("between the other three of " + place, first[place], turned.turn(0, place));
            }
            // The least of all but the root is among the first ones.
            long least = Arrays.stream(first).min().orElse(0);
            long many = Arrays.stream(first).filter(one -> one == least).count();
            long ofRoot = Arrays.stream(root).filter(one -> one < least).count();
            long atLeast = Arrays.stream(root).filter(one -> one == least).count();
            Check.due("below it", ofRoot, () -> x.countAnew(0, (int) least - 1));
            Check.due("with it", ofRoot + atLeast + many, () -> x.countAnew(0, (int) least));
        }
    }

    private static BigInteger square(long of) {
        return BigInteger.valueOf(of).pow(2);
    }

    // Promise 20, Terms: "Its circle touches the line at it from above, and has the radius 1 / (2 q q)."
    private static void circlesOfFractions() {
        Koebehall x = new Koebehall();
        int[][] all = {{0, 1}, {1, 1}, {1, 2}, {-1, 2}, {1, 3}, {2, 5}, {3, 8}, {-2, 1}, {999, 1000}, {998, 999}, {-7, 9}};
        for (int[] one : all) {
            for (int[] other : all) {
                long p = one[0];
                long q = one[1];
                long r = other[0];
                long s = other[1];
                // The middles lie at p / q and r / s, as high as the radii: all of it times 2 q q s s.
                BigInteger wide = square(2 * (p * s - r * q) * q * s);
                BigInteger high = square(s * s - q * q);
                BigInteger reach = square(s * s + q * q);
                int due = 1 - wide.add(high).compareTo(reach);
                String what = "ford(" + p + ", " + q + ", " + r + ", " + s + ")";
                Check.due(what, due, () -> x.ford(one[0], one[1], other[0], other[1]));
            }
        }
    }

    // Promise 20: "Tells how the circles of p / q and r / s lie."
    private static void tellsHowTheCirclesLie() {
        Koebehall x = new Koebehall();
        Check.due("0 / 1 and 1 / 2", Koebehall.TOUCH, () -> x.ford(0, 1, 1, 2));
        Check.due("1 / 2 and 0 / 1", Koebehall.TOUCH, () -> x.ford(1, 2, 0, 1));
        Check.due("1 / 3 and 2 / 3", Koebehall.APART, () -> x.ford(1, 3, 2, 3));
        Check.due("2 / 3 and 1 / 3", Koebehall.APART, () -> x.ford(2, 3, 1, 3));
        Check.due("2 / 3 and 2 / 3", Koebehall.OVERLAP, () -> x.ford(2, 3, 2, 3));
    }

    private static long gcd(long a, long b) {
        return b == 0 ? Math.abs(a) : gcd(b, a % b);
    }

    private static boolean isBetween(long top, long bottom, int[] low, int[] high) {
        return low[0] * bottom < top * low[1] && top * high[1] < high[0] * bottom;
    }

    // Promise 21: "Returns the fraction between p / q and r / s that has the greatest circle."
    private static void returnsTheGreatestCircleBetween() {
        for (int run = 0; run < 150; run++) {
            int[] low = {Check.pickFrom(-40, 40), Check.pickFrom(1, 12)};
            int[] high = {Check.pickFrom(-40, 40), Check.pickFrom(1, 12)};
            if (gcd(low[0], low[1]) != 1 || gcd(high[0], high[1]) != 1 || low[0] * high[1] >= high[0] * low[1]) {
                continue;
            }
            Koebehall x = new Koebehall();
            long top = x.between(low[0], low[1], high[0], high[1], true);
            long bottom = x.between(low[0], low[1], high[0], high[1], false);
            String what = low[0] + "/" + low[1] + " to " + high[0] + "/" + high[1] + ": " + top + "/" + bottom;
            Check.holds(what + " lies between", () -> isBetween(top, bottom, low, high));
            Check.dueLong(what + " is in lowest terms", 1, gcd(top, bottom));
            for (long q = 1; q <= bottom; q++) {
                for (long p = -40 * q; p <= 40 * q; p++) {
                    boolean isGreater = q < bottom || p < top;
                    long tried = p;
                    long below = q;
                    Check.holdsNot(what + ": " + p + "/" + q, () -> isGreater && isBetween(tried, below, low, high));
                }
            }
        }
    }
}
