import java.math.BigInteger;
import java.util.ArrayList;
import java.util.List;

/** Promises 22 to 26: tell, append, home, word, image. */
public final class WordsTest {
    private static final int BILLION = 1000000000;

    public static void main(String[] args) {
        numbersAndRanges();
        wrongMoves();
        appendByHand();
        for (int place = 0; place < 4; place++) {
            appendUpToTheMost(place, false);
            appendUpToTheMost(place, true);
        }
        appendRefuses();
        homeByHand();
        kinds();
        wordRefuses();
        imageByHand();
        imageAtTheEnds();
        imageRefuses();
        for (int run = 0; run < 60; run++) {
            runAtWill(run);
        }
        Check.end();
    }

    private static void words(String when, Koebehall x, long... due) {
        for (int what = 0; what < 4; what++) {
            int at = what;
            Check.due(when + ": word(" + at + ")", due[at], () -> x.word(at));
        }
    }

    private static void numbersAndRanges() {
        Koebehall x = new Koebehall();
        wrongTables(x);
        Check.due("the first", 0, () -> x.tell(1, 1000, 0, 1));
        Check.due("the second", 1, () -> x.tell(1, 0, -1000, 1));
        Check.due("the third", 2, () -> x.tell(-1000, 999, 1, -1));
        Check.due("the fourth", 3, () -> x.tell(1, 999, 1, 1000));
        Check.noState("there are 4", () -> x.tell(1, 0, 0, 1));
        wrongTables(x);
        words("telling leaves the word", x, 1, 0, 0, 1);
        Check.due("the fourth stands", 1001, () -> x.append(3, false));
        words("the fourth", x, 1, 999, 1, 1000);
        Check.noIndex("no fifth", () -> x.append(4, false));
        Koebehall y = new Koebehall();
        Check.due("ends", 0, () -> y.tell(1000, 999, 1, 1));
        Check.due("ends", 1, () -> y.tell(-1, 999, 1, -1000));
        Check.due("ends", 2, () -> y.tell(1, -1000, 0, 1));
        Check.due("ends", 3, () -> y.tell(1, 0, 1000, 1));
    }

    private static void wrongTables(Koebehall x) {
        int[][] wrong = {{1001, 1000, 1, 1}, {-1001, 1000, 1, -1}, {1, 1001, 0, 1}, {1, -1001, 0, 1}, {1, 0, 1001, 1},
            {1, 0, -1001, 1}, {1, 1000, 1, 1001}, {-1, 1000, 1, -1001}, {1, 2, 3, 4}, {1, 0, 0, -1}, {0, 0, 0, 0},
            {1, 1, 1, 1}, {0, 1, 1, 0}, {2, 1, 1, 2}, {Integer.MAX_VALUE, 0, 0, Integer.MAX_VALUE},
            {Integer.MIN_VALUE, 1, -1, 0}, {0, Integer.MIN_VALUE, 1, 0}};
        for (int[] one : wrong) {
            Check.noArgument("tell(" + one[0] + ", " + one[1] + ", " + one[2] + ", " + one[3] + ")",
                    () -> x.tell(one[0], one[1], one[2], one[3]));
        }
    }

    private static void wrongMoves() {
        Koebehall x = new Koebehall();
        Check.noIndex("no move yet", () -> x.append(0, false));
        wrongTables(x);
        Check.noIndex("still none", () -> x.append(0, true));
        Check.due("the first", 0, () -> x.tell(1, 1, 0, 1));
        int[] wrong = {-1, 1, 4, Integer.MAX_VALUE, Integer.MIN_VALUE};
        for (int move : wrong) {
            Check.noIndex("append(" + move + ")", () -> x.append(move, false));
            Check.noIndex("append(" + move + ") undone", () -> x.append(move, true));
        }
        words("unchanged", x, 1, 0, 0, 1);
    }

    private static void appendByHand() {
        Koebehall x = new Koebehall();
        x.tell(2, 3, 5, 8);
        x.tell(1, 4, 0, 1);
        Check.due("trace", 10, () -> x.append(0, false));
        words("the first", x, 2, 3, 5, 8);
        Check.due("trace", 30, () -> x.append(1, false));
        words("the word is on the left", x, 2, 11, 5, 28);
        Check.due("trace", 10, () -> x.append(1, true));
        words("undone", x, 2, 3, 5, 8);
        Check.due("trace", 2, () -> x.append(0, true));
        words("undone", x, 1, 0, 0, 1);
        Check.due("trace", 10, () -> x.append(0, true));
        words("d, -b, -c, a", x, 8, -3, -5, 2);
        Check.due("trace", 10 - 20, () -> x.append(1, false));
        words("on the left", x, 8, 29, -5, -18);
    }

    /**
     * By the moves 1, 1, 0, 1 and 1, 0, 1, 1 the word comes so far that one more of them gives, at the place alone,
     * just the most, or one above it.
     */
    private static void appendUpToTheMost(int place, boolean isBelow) {
        for (int more = 0; more < 2; more++) {
            Koebehall x = new Koebehall();
            x.tell(1, 1, 0, 1);
            x.tell(1, 0, 1, 1);
            x.tell(-1, 0, 0, -1);
            long most = BILLION + more;
            long other = otherOf(most);
            long top = place < 2 ? most : other;
            long bottom = place < 2 ? other : most;
            if (isBelow) {
                x.append(2, false);
            }
            while (top != bottom) {
                boolean isTop = top > bottom;
                x.append(isTop ? 0 : 1, false);
                top -= isTop ? bottom : 0;
                bottom -= isTop ? 0 : top;
            }
            int last = place % 2 == 0 ? 1 : 0;
            long[] before = {x.word(0), x.word(1), x.word(2), x.word(3)};
            String what = "place " + place + (isBelow ? " below" : " above");
            if (more == 0) {
                long sum = before[0] + before[3] + (last == 1 ? before[1] : before[2]);
                Check.due(what + ": just the most", sum, () -> x.append(last, false));
                Check.due(what + ": the most", isBelow ? -BILLION : BILLION, () -> x.word(place));
            } else {
                Check.noState(what + ": one more", () -> x.append(last, false));
                words(what + ": unchanged", x, before);
            }
        }
    }

    /** What has no divisor in common with a number, and comes to 1 with it by few steps of taking the lesser off. */
    private static long otherOf(long number) {
        long best = 0;
        int least = 400;
        for (long other = number / 1000 * 618; other < number / 1000 * 618 + 3000; other++) {
            int steps = stepsOf(number, other);
            if (steps < least) {
                least = steps;
                best = other;
            }
        }
        return best;
    }

    private static int stepsOf(long a, long b) {
        int steps = 0;
        while (b != 0) {
            steps += (int) Math.min(1000, a / b);
            long rest = a % b;
            a = b;
            b = rest;
        }
        return a == 1 ? steps : 1000;
    }

    private static void appendRefuses() {
        Koebehall x = new Koebehall();
        x.tell(1000, 999, 1, 1);
        x.append(0, false);
        x.append(0, false);
        words("two", x, 1000999, 999999, 1001, 1000);
        Check.noState("three", () -> x.append(0, false));
        Check.noIndex("an index is told first", () -> x.append(1, false));
        words("unchanged", x, 1000999, 999999, 1001, 1000);
        Check.due("undone", 1001, () -> x.append(0, true));
        x.append(0, true);
        x.append(0, true);
        x.append(0, true);
        Check.noState("three, undone", () -> x.append(0, true));
        words("unchanged", x, 1000, -999999, -1001, 1000999);
    }

    private static void homeByHand() {
        Koebehall x = new Koebehall();
        Check.due("at first", 2, () -> x.home());
        x.tell(2, 1, 1, 1);
        x.tell(-1, 0, 0, -1);
        x.append(0, false);
        x.append(0, false);
        Check.due("home", 7, () -> x.home());
        words("home", x, 1, 0, 0, 1);
        x.append(0, false);
        x.append(1, false);
        Check.due("home", -3, () -> x.home());
        Check.due("home again", 2, () -> x.home());
        Check.due("the moves stay", 3, () -> x.append(0, false));
        Check.due("the moves stay", 2, () -> x.tell(1, 0, 0, 1));
    }

    private static void kind(int due, int a, int b, int c, int d) {
        Koebehall x = new Koebehall();
        x.tell(a, b, c, d);
        x.append(0, false);
        Check.due("kind of " + a + ", " + b + ", " + c + ", " + d, due, () -> x.word(4));
    }

    private static void kinds() {
        Check.due("at first", 0, () -> new Koebehall().word(4));
        kind(0, 1, 0, 0, 1);
        kind(0, -1, 0, 0, -1);
        kind(1, 0, -1, 1, 0);
        kind(1, 0, 1, -1, 0);
        kind(1, 1, 1, -1, 0);
        kind(1, 0, 1, -1, -1);
        kind(1, 3, -7, 1, -2);
        kind(2, 1, 1, 0, 1);
        kind(2, 1, 0, -5, 1);
        kind(2, -1, 3, 0, -1);
        kind(2, -1, 0, 1, -1);
        kind(2, 3, 4, -1, -1);
        kind(2, -3, 4, -1, 1);
        kind(3, 2, 1, 1, 1);
        kind(3, -2, 1, 1, -1);
        kind(3, 3, 2, 1, 1);
        kind(3, -1, 999, 1, -1000);
    }

    private static void wordRefuses() {
        Koebehall x = new Koebehall();
        Check.noIndex("word(-1)", () -> x.word(-1));
        Check.noIndex("word(5)", () -> x.word(5));
        Check.noIndex("word(most)", () -> x.word(Integer.MAX_VALUE));
        Check.noIndex("word(least)", () -> x.word(Integer.MIN_VALUE));
    }

    private static void image(Koebehall x, int p, int q, long top, long bottom) {
        String what = "image(" + p + ", " + q + ")";
        Check.dueLong(what + " above", top, x.image(p, q, true));
        Check.dueLong(what + " below", bottom, x.image(p, q, false));
    }

    private static void imageByHand() {
        Koebehall x = new Koebehall();
        image(x, -5, 3, -5, 3);
        image(x, 1, 0, 1, 0);
        x.tell(0, -1, 1, 0);
        x.tell(2, 1, 1, 1);
        x.tell(-1, 0, 0, -1);
        x.append(0, false);
        image(x, 1, 2, -2, 1);
        image(x, -1, 2, 2, 1);
        image(x, 0, 1, 1, 0);
        image(x, 1, 0, 0, 1);
        x.append(1, false);
        // -1, -1, 2, 1
        image(x, 0, 1, -1, 1);
        image(x, 1, 0, -1, 2);
        image(x, -1, 2, 1, 0);
        image(x, -1, 1, 0, 1);
        image(x, -2, 1, -1, 3);
        x.append(2, false);
        image(x, -1, 2, 1, 0);
        image(x, 1, 0, -1, 2);
        image(x, -2, 1, -1, 3);
        words("asking changes nothing", x, 1, 1, -2, -1);
    }

    private static void imageAtTheEnds() {
        Koebehall x = new Koebehall();
        image(x, BILLION, 999999999, BILLION, 999999999);
        image(x, -999999999, BILLION, -999999999, BILLION);
        image(x, -BILLION, 1, -BILLION, 1);
        x.tell(1000, 999, 1, 1);
        x.append(0, false);
        x.append(0, false);
        image(x, BILLION, 999999999, 2000997999000001L, 2000999999000L);
        image(x, -BILLION, 999999999, 1000999000000000L - 999998999000001L, 1001000000000L - 999999999000L);
    }

    private static void imageRefuses() {
        Koebehall x = new Koebehall();
        int[][] wrong = {{BILLION + 1, 1}, {-BILLION - 1, 1}, {1, -1}, {1, BILLION + 1}, {2, 0}, {-1, 0}, {0, 0}, {2, 4},
            {0, 5}, {-3, 9}, {BILLION, BILLION}, {Integer.MIN_VALUE, 1}, {1, Integer.MIN_VALUE}, {Integer.MAX_VALUE, 1},
            {BILLION, 0}, {-BILLION, 0}};
        for (int[] one : wrong) {
            Check.noArgument("image(" + one[0] + ", " + one[1] + ")", () -> x.image(one[0], one[1], true));
            Check.noArgument("image(" + one[0] + ", " + one[1] + ")", () -> x.image(one[0], one[1], false));
        }
    }

    private static void runAtWill(int run) {
        Koebehall x = new Koebehall();
        List<BigInteger[]> moves = new ArrayList<>();
        BigInteger[] word = table(1, 0, 0, 1);
        int[][] all = {{1, 1, 0, 1}, {0, -1, 1, 0}, {2, 1, 1, 1}, {-1, 0, 0, -1}, {3, -5, 2, -3}, {1, 0, -7, 1},
            {31, 30, 1, 1}, {-7, 12, 4, -7}, {13, 8, 8, 5}};
        for (int step = 0; step < 60; step++) {
            if (moves.size() < 4 && Check.pick(5) < 2) {
                int[] one = all[Check.pick(all.length)];
                Check.dueLong("tell", moves.size(), x.tell(one[0], one[1], one[2], one[3]));
                moves.add(table(one[0], one[1], one[2], one[3]));
            }
            if (moves.isEmpty()) {
                continue;
            }
            int move = Check.pick(moves.size());
            boolean isUndo = Check.pick(3) == 0;
            BigInteger[] m = moves.get(move);
            BigInteger[] next = times(word, isUndo ? new BigInteger[] {m[3], m[1].negate(), m[2].negate(), m[0]} : m);
            if (isWithin(next)) {
                word = next;
                Check.dueLong("run " + run + " append", word[0].add(word[3]).longValue(), x.append(move, isUndo));
            } else {
                Check.noState("run " + run + " append", () -> x.append(move, isUndo));
            }
            if (step % 6 == 5) {
                words("run " + run, x, word[0].longValue(), word[1].longValue(), word[2].longValue(), word[3].longValue());
                imageAtWill(run, x, word);
            }
        }
        Check.dueLong("run " + run + " home", word[0].add(word[3]).longValue(), x.home());
    }

    private static void imageAtWill(int run, Koebehall x, BigInteger[] word) {
        int most = Check.pick(2) == 0 ? 12 : BILLION;
        int p = Check.pickFrom(-most, most);
        int q = Check.pickFrom(0, most);
        BigInteger top = BigInteger.valueOf(p);
        BigInteger bottom = BigInteger.valueOf(q);
        if (!top.gcd(bottom).equals(BigInteger.ONE) || q == 0 && p != 1) {
            Check.noArgument("run " + run + " image(" + p + ", " + q + ")", () -> x.image(p, q, true));
            return;
        }
        BigInteger above = word[0].multiply(top).add(word[1].multiply(bottom));
        BigInteger below = word[2].multiply(top).add(word[3].multiply(bottom));
        if (below.signum() < 0 || below.signum() == 0 && above.signum() < 0) {
            above = above.negate();
            below = below.negate();
        }
        image(x, p, q, above.longValueExact(), below.longValueExact());
    }

    private static BigInteger[] table(long a, long b, long c, long d) {
        return new BigInteger[] {BigInteger.valueOf(a), BigInteger.valueOf(b), BigInteger.valueOf(c), BigInteger.valueOf(d)};
    }

    private static BigInteger[] times(BigInteger[] v, BigInteger[] w) {
        return new BigInteger[] {v[0].multiply(w[0]).add(v[1].multiply(w[2])), v[0].multiply(w[1]).add(v[1].multiply(w[3])),
            v[2].multiply(w[0]).add(v[3].multiply(w[2])), v[2].multiply(w[1]).add(v[3].multiply(w[3]))};
    }

    private static boolean isWithin(BigInteger[] table) {
        for (BigInteger one : table) {
            if (one.abs().longValueExact() > BILLION) {
                return false;
            }
        }
        return true;
    }
}
