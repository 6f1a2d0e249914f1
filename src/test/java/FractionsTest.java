/** Promises 20 and 21: ford, between. */
public final class FractionsTest {
    private static final int BILLION = 1000000000;

    public static void main(String[] args) {
        fordByHand();
        fordRefuses();
        fordAtWill();
        betweenByHand();
        betweenAtTheEnds();
        betweenRefuses();
        betweenAllSmallOnes();
        betweenLongChains();
        Check.end();
    }

    private static long gcd(long a, long b) {
        return b == 0 ? Math.abs(a) : gcd(b, a % b);
    }

    private static void fordByHand() {
        Koebehall x = new Koebehall();
        Check.due("0/1 and 1/1", Koebehall.TOUCH, () -> x.ford(0, 1, 1, 1));
        Check.due("1/1 and 0/1", Koebehall.TOUCH, () -> x.ford(1, 1, 0, 1));
        Check.due("1/2 and 1/3", Koebehall.TOUCH, () -> x.ford(1, 2, 1, 3));
        Check.due("1/3 and 1/2", Koebehall.TOUCH, () -> x.ford(1, 3, 1, 2));
        Check.due("1/2 and 1/4", Koebehall.APART, () -> x.ford(1, 2, 1, 4));
        Check.due("0/1 and 2/1", Koebehall.APART, () -> x.ford(0, 1, 2, 1));
        Check.due("-1/2 and 1/2", Koebehall.APART, () -> x.ford(-1, 2, 1, 2));
        Check.due("-1/2 and -1/2", Koebehall.OVERLAP, () -> x.ford(-1, 2, -1, 2));
        Check.due("0/1 and 0/1", Koebehall.OVERLAP, () -> x.ford(0, 1, 0, 1));
        Check.due("ends", Koebehall.APART, () -> x.ford(-BILLION, 999999999, BILLION, 999999999));
        Check.due("ends", Koebehall.TOUCH, () -> x.ford(999999999, BILLION, 1, 1));
        Check.due("ends", Koebehall.TOUCH, () -> x.ford(999999998, 999999999, 999999999, BILLION));
        Check.due("ends", Koebehall.TOUCH, () -> x.ford(-BILLION, 1, -999999999, 1));
        // The bottoms times the tops are alike, or unlike by one, as ints, which wrap round.
        Check.due("a product beyond an int", Koebehall.APART, () -> x.ford(65537, 1, 1, 65536));
        Check.due("a product beyond an int", Koebehall.APART, () -> x.ford(65536, 1, 1, 65536));
    }

    private static void fordRefuses() {
        Koebehall x = new Koebehall();
        int[][] wrong = {{BILLION + 1, 1}, {-BILLION - 1, 1}, {1, 0}, {1, -1}, {1, BILLION + 1}, {2, 4}, {0, 2}, {-6, 9},
            {BILLION, BILLION}, {-BILLION, 5}, {Integer.MIN_VALUE, 1}, {1, Integer.MIN_VALUE}, {0, 0}, {1, Integer.MAX_VALUE},
            {0, BILLION}, {3, 3}, {-3, 3}};
        for (int[] one : wrong) {
            String what = one[0] + "/" + one[1];
            Check.noArgument("ford: " + what, () -> x.ford(one[0], one[1], 0, 1));
            Check.noArgument("ford: " + what, () -> x.ford(0, 1, one[0], one[1]));
            Check.noArgument("between: " + what, () -> x.between(one[0], one[1], 5, 7, true));
            Check.noArgument("between: " + what, () -> x.between(5, 7, one[0], one[1], false));
        }
    }

    private static void fordAtWill() {
        Koebehall x = new Koebehall();
        for (int run = 0; run < 400; run++) {
            int p = Check.pickFrom(-9, 9);
            int q = Check.pickFrom(1, 9);
            int r = Check.pickFrom(-9, 9);
            int s = Check.pickFrom(1, 9);
            String what = "ford(" + p + ", " + q + ", " + r + ", " + s + ")";
            if (gcd(p, q) != 1 || gcd(r, s) != 1) {
                Check.noArgument(what, () -> x.ford(p, q, r, s));
                continue;
            }
            // The circles' middles are at p / q, 1 / (2 q q): all of it times 2 q q s s.
            long wide = 2L * (p * s - r * q) * q * s;
            long high = (long) s * s - (long) q * q;
            long reach = (long) s * s + (long) q * q;
            long more = wide * wide + high * high - reach * reach;
            int due = more > 0 ? Koebehall.APART : more == 0 ? Koebehall.TOUCH : Koebehall.OVERLAP;
            Check.due(what, due, () -> x.ford(p, q, r, s));
        }
    }

    private static void between(Koebehall x, int p, int q, int r, int s, long top, long bottom) {
        String what = "between(" + p + ", " + q + ", " + r + ", " + s + ")";
        Check.dueLong(what + " above", top, x.between(p, q, r, s, true));
        Check.dueLong(what + " below", bottom, x.between(p, q, r, s, false));
        Check.dueLong(what + " turned, above", top, x.between(r, s, p, q, true));
        Check.dueLong(what + " turned, below", bottom, x.between(r, s, p, q, false));
    }

    private static void betweenByHand() {
        Koebehall x = new Koebehall();
        between(x, 0, 1, 1, 1, 1, 2);
        between(x, 0, 1, 1, 2, 1, 3);
        between(x, 1, 3, 1, 2, 2, 5);
        between(x, -1, 3, -1, 4, -2, 7);
        between(x, -5, 2, 7, 3, -2, 1);
        between(x, -1, 1, 1, 1, 0, 1);
        between(x, 3, 1, 5, 1, 4, 1);
        between(x, 3, 1, 9, 1, 4, 1);
        between(x, -9, 1, -3, 1, -8, 1);
        between(x, 5, 2, 9, 2, 3, 1);
        between(x, 311, 100, 157, 50, 25, 8);
        between(x, -157, 50, -311, 100, -25, 8);
        between(x, 0, 1, 3, 4, 1, 2);
        between(x, 0, 1, 2, 5, 1, 3);
        between(x, 2, 3, 1, 1, 3, 4);
    }

    private static void betweenAtTheEnds() {
        Koebehall x = new Koebehall();
        between(x, -BILLION, 1, BILLION, 1, -999999999, 1);
        between(x, 999999999, 1, BILLION, 1, 1999999999, 2);
        between(x, -BILLION, 1, -999999999, 1, -1999999999, 2);
        between(x, 0, 1, 1, BILLION, 1, 1000000001L);
        between(x, -1, BILLION, 0, 1, -1, 1000000001L);
        between(x, -1, BILLION, 1, BILLION, 0, 1);
        between(x, 999999999, BILLION, 1, 1, 1000000000L, 1000000001L);
        between(x, 999999998, 999999999, 999999999, BILLION, 1999999997L, 1999999999L);
        between(x, 1, BILLION, 1, 999999999, 2, 1999999999L);
        between(x, -1, 999999999, -1, BILLION, -2, 1999999999L);
        between(x, 999999999, 1, BILLION, 999999999, 2, 1);
        between(x, -BILLION, 999999999, 999999999, BILLION, -1, 1);
    }

    private static void betweenRefuses() {
        Koebehall x = new Koebehall();
        Check.noArgument("the same", () -> x.between(2, 1, 2, 1, true));
        Check.noArgument("the same", () -> x.between(-7, 9, -7, 9, false));
        Check.noArgument("the same", () -> x.between(0, 1, 0, 1, true));
        Check.noArgument("the same", () -> x.between(BILLION, 999999999, BILLION, 999999999, true));
    }

    private static void betweenAllSmallOnes() {
        for (int p = -7; p <= 7; p++) {
            for (int q = 1; q <= 7; q++) {
                if (gcd(p, q) == 1) {
                    betweenFrom(p, q);
                }
            }
        }
    }

    private static void betweenFrom(int p, int q) {
        Koebehall x = new Koebehall();
        for (int r = -7; r <= 7; r++) {
            for (int s = 1; s <= 7; s++) {
                if (gcd(r, s) == 1 && p * s < r * q) {
                    long[] due = tried(p, q, r, s);
                    Check.dueLong("top between " + p + "/" + q + " and " + r + "/" + s, due[0], x.between(p, q, r, s, true));
                    Check.dueLong("bottom between " + r + "/" + s + " and " + p + "/" + q, due[1],
                            x.between(r, s, p, q, false));
                }
            }
        }
    }

    /** The first that is found, trying the bottoms from 1 on. */
    private static long[] tried(long p, long q, long r, long s) {
        for (long bottom = 1; ; bottom++) {
            long top = Math.floorDiv(p * bottom, q) + 1;
            if (top * s < r * bottom) {
                return new long[] {top, bottom};
            }
        }
    }

    private static void betweenLongChains() {
        Koebehall x = new Koebehall();
        // Neighbours in the row 1, 1, 2, 3, 5: the longest chains there are.
        long a = 1;
        long b = 1;
        while (a + b <= BILLION) {
            long c = a + b;
            if (a > 1) {
                int p = (int) a;
                int q = (int) b;
                int r = (int) b;
                int s = (int) c;
                between(x, p, q, r, s, p + (long) r, q + (long) s);
            }
            a = b;
            b = c;
        }
        for (int run = 0; run < 80; run++) {
            int q = Check.pickFrom(1, 20000);
            int p = Check.pickFrom(-20000, 20000);
            int s = Check.pickFrom(1, 20000);
            int r = (int) Math.floorDiv((long) p * s, (long) q) + 1 + Check.pick(2);
            if (gcd(p, q) == 1 && gcd(r, s) == 1) {
                long[] due = tried(p, q, r, s);
                between(x, p, q, r, s, due[0], due[1]);
            }
        }
    }
}
