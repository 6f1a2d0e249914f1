/** Promises 20 and 21 where they end; each test is headed by the sentence that it is of. */
public final class FractionsBoundsTest {
    private static final int BILLION = 1000000000;
    private static final int MOST = Integer.MAX_VALUE;
    private static final int LEAST = Integer.MIN_VALUE;
    private static final int[] FAR = {2 * BILLION, -2 * BILLION, MOST, LEAST};

    public static void main(String[] args) {
        fordP();
        fordQ();
        fordR();
        fordS();
        fordOutOfRange();
        fordNotInLowestTerms();
        fordReturnsApartToOverlap();
        fordTouchApartOverlap();
        fordAtTheEnds();
        betweenP();
        betweenQ();
        betweenR();
        betweenS();
        betweenOutOfRange();
        betweenNotInLowestTerms();
        betweenBothTheSame();
        betweenAboveAndBelow();
        betweenTheLeastBottom();
        betweenTheLowestOfSeveral();
        betweenAtTheEnds();
        betweenTheNearest();
        betweenReturnsTheNumber();
        betweenIsToldInLowestTerms();
        Check.end();
    }

    private static void fordIs(int due, int p, int q, int r, int s) {
        String what = "ford(" + p + ", " + q + ", " + r + ", " + s + ")";
        Bounds.due(what, due, Bounds::fresh, x -> x.ford(p, q, r, s));
        Bounds.due(what + " turned", due, Bounds::fresh, x -> x.ford(r, s, p, q));
    }

    private static void noFord(int p, int q) {
        Bounds.noArgument("ford of " + p + "/" + q, Bounds::fresh, x -> x.ford(p, q, 1, 2));
        Bounds.noArgument("ford of another and " + p + "/" + q, Bounds::fresh, x -> x.ford(1, 2, p, q));
        Bounds.noArgument("ford of twice " + p + "/" + q, Bounds::fresh, x -> x.ford(p, q, p, q));
    }

    private static void betweenIs(long top, long bottom, int p, int q, int r, int s) {
        String what = "between(" + p + ", " + q + ", " + r + ", " + s + ")";
        Bounds.due(what + " above", top, Bounds::fresh, x -> x.between(p, q, r, s, true));
        Bounds.due(what + " below", bottom, Bounds::fresh, x -> x.between(p, q, r, s, false));
        Bounds.due(what + " turned, above", top, Bounds::fresh, x -> x.between(r, s, p, q, true));
        Bounds.due(what + " turned, below", bottom, Bounds::fresh, x -> x.between(r, s, p, q, false));
    }

    private static void noBetween(int p, int q) {
        for (int end = 0; end < 2; end++) {
            boolean isTop = end == 0;
            Bounds.noArgument("between of " + p + "/" + q, Bounds::fresh, x -> x.between(p, q, 1, 2, isTop));
            Bounds.noArgument("between of another and " + p + "/" + q, Bounds::fresh, x -> x.between(1, 2, p, q, isTop));
        }
    }

    private static void fordIsOneWay(int due, int p, int q, int r, int s) {
        String what = "ford(" + p + ", " + q + ", " + r + ", " + s + ")";
        Bounds.due(what, due, Bounds::fresh, x -> x.ford(p, q, r, s));
    }

    private static void noFord(int p, int q, int r, int s) {
        String what = "ford(" + p + ", " + q + ", " + r + ", " + s + ")";
        Bounds.noArgument(what, Bounds::fresh, x -> x.ford(p, q, r, s));
    }

    // Promise 20: "- `p`: -1000000000 to 1000000000"
    private static void fordP() {
        fordIsOneWay(Koebehall.TOUCH, -BILLION, 1, -999999999, 1);
        fordIsOneWay(Koebehall.TOUCH, BILLION, 1, 999999999, 1);
        noFord(-BILLION - 1, 1, -BILLION, 1);
        noFord(BILLION + 1, 1, BILLION, 1);
    }

    // Promise 20: "- `q`: 1 to 1000000000"
    private static void fordQ() {
        fordIsOneWay(Koebehall.TOUCH, 1, 1, 0, 1);
        fordIsOneWay(Koebehall.TOUCH, 1, BILLION, 0, 1);
        noFord(1, 0, 0, 1);
        noFord(1, BILLION + 1, 0, 1);
    }

    // Promise 20: "- `r`: -1000000000 to 1000000000"
    private static void fordR() {
        fordIsOneWay(Koebehall.TOUCH, -999999999, 1, -BILLION, 1);
        fordIsOneWay(Koebehall.TOUCH, 999999999, 1, BILLION, 1);
        noFord(-BILLION, 1, -BILLION - 1, 1);
        noFord(BILLION, 1, BILLION + 1, 1);
    }

    // Promise 20: "- `s`: 1 to 1000000000"
    private static void fordS() {
        fordIsOneWay(Koebehall.TOUCH, 0, 1, 1, 1);
        fordIsOneWay(Koebehall.TOUCH, 0, 1, 1, BILLION);
        noFord(0, 1, 1, 0);
        noFord(0, 1, 1, BILLION + 1);
    }

    // Promise 20: "Throws `IllegalArgumentException` if an argument is out of range, or a fraction is not in lowest
    // terms"
    private static void fordOutOfRange() {
        for (int far : FAR) {
            noFord(far, 1);
            noFord(1, far);
            noFord(far, far);
        }
        noFord(1, -1);
        noFord(0, 0);
        noFord(1, 0);
    }

    // Promise 20: "Throws `IllegalArgumentException` if an argument is out of range, or a fraction is not in lowest
    // terms"
    private static void fordNotInLowestTerms() {
        fordIs(Koebehall.TOUCH, 0, 1, 1, 1);
        noFord(0, 2);
        noFord(0, BILLION);
        noFord(2, 2);
        noFord(-2, 2);
        noFord(2, 4);
        noFord(BILLION, BILLION);
        noFord(-BILLION, BILLION);
        noFord(BILLION, 2);
        noFord(-BILLION, 5);
        noFord(999999999, 999999999);
        noFord(999999999, 333333333);
    }

    // Promise 20: "Returns APART to OVERLAP."
    private static void fordReturnsApartToOverlap() {
        fordIs(0, 0, 1, 2, 1);
        fordIs(1, 0, 1, 1, 1);
        fordIs(2, 0, 1, 0, 1);
    }

    // Promise 20, Terms: "Two circles of unlike fractions TOUCH, or are APART; of like ones they OVERLAP."
    private static void fordTouchApartOverlap() {
        fordIs(Koebehall.OVERLAP, 2, 5, 2, 5);
        fordIs(Koebehall.TOUCH, 2, 5, 1, 2);
        fordIs(Koebehall.TOUCH, 2, 5, 1, 3);
        fordIs(Koebehall.APART, 2, 5, 0, 1);
        fordIs(Koebehall.APART, 2, 5, 3, 5);
        fordIs(Koebehall.APART, 2, 5, -2, 5);
        fordIs(Koebehall.TOUCH, 0, 1, -1, 7);
        fordIs(Koebehall.APART, -1, 1, 1, 1);
    }

    // Promise 20, Terms: "All that is exact is exact."
    private static void fordAtTheEnds() {
        fordIs(Koebehall.OVERLAP, BILLION, 999999999, BILLION, 999999999);
        fordIs(Koebehall.OVERLAP, -999999999, BILLION, -999999999, BILLION);
        fordIs(Koebehall.TOUCH, 999999998, 999999999, 999999999, BILLION);
        fordIs(Koebehall.APART, 999999997, 999999998, 999999999, BILLION);
        fordIs(Koebehall.APART, BILLION, 999999999, -BILLION, 999999999);
        fordIs(Koebehall.APART, BILLION, 1, 1, BILLION);
        // Crossed they come to 2 to the 32nd, 1 less and 1 more: 0, -1 and 1 as ints.
        fordIs(Koebehall.APART, 65537, 1, 131073, 65537);
        fordIs(Koebehall.APART, 65536, 1, 1, 65536);
        fordIs(Koebehall.APART, 65537, 1, 131072, 65537);
    }

    private static void betweenIsOneWay(long bottom, int p, int q, int r, int s) {
        String what = "between(" + p + ", " + q + ", " + r + ", " + s + ")";
        Bounds.due(what, bottom, Bounds::fresh, x -> x.between(p, q, r, s, false));
    }

    private static void noBetween(int p, int q, int r, int s) {
        String what = "between(" + p + ", " + q + ", " + r + ", " + s + ")";
        Bounds.noArgument(what, Bounds::fresh, x -> x.between(p, q, r, s, true));
        Bounds.noArgument(what, Bounds::fresh, x -> x.between(p, q, r, s, false));
    }

    // Promise 21: "- `p`: -1000000000 to 1000000000"
    private static void betweenP() {
        betweenIsOneWay(2, -BILLION, 1, -999999999, 1);
        betweenIsOneWay(2, BILLION, 1, 999999999, 1);
        noBetween(-BILLION - 1, 1, 0, 1);
        noBetween(BILLION + 1, 1, 0, 1);
    }

    // Promise 21: "- `q`: 1 to 1000000000"
    private static void betweenQ() {
        betweenIsOneWay(2, 1, 1, 0, 1);
        betweenIsOneWay(1000000001L, 1, BILLION, 0, 1);
        noBetween(1, 0, 0, 1);
        noBetween(1, BILLION + 1, 0, 1);
    }

    // Promise 21: "- `r`: -1000000000 to 1000000000"
    private static void betweenR() {
        betweenIsOneWay(2, -999999999, 1, -BILLION, 1);
        betweenIsOneWay(2, 999999999, 1, BILLION, 1);
        noBetween(0, 1, -BILLION - 1, 1);
        noBetween(0, 1, BILLION + 1, 1);
    }

    // Promise 21: "- `s`: 1 to 1000000000"
    private static void betweenS() {
        betweenIsOneWay(2, 0, 1, 1, 1);
        betweenIsOneWay(1000000001L, 0, 1, 1, BILLION);
        noBetween(0, 1, 1, 0);
        noBetween(0, 1, 1, BILLION + 1);
    }

    // Promise 21: "Throws `IllegalArgumentException` if an argument is out of range, a fraction is not in lowest terms,
    // or both are the same"
    private static void betweenOutOfRange() {
        for (int far : FAR) {
            noBetween(far, 1);
            noBetween(1, far);
            noBetween(far, far);
        }
        noBetween(1, -1);
        noBetween(0, 0);
        noBetween(1, 0);
    }

    // Promise 21: "Throws `IllegalArgumentException` if an argument is out of range, a fraction is not in lowest terms,
    // or both are the same"
    private static void betweenNotInLowestTerms() {
        noBetween(0, 2);
        noBetween(0, BILLION);
        noBetween(2, 2);
        noBetween(-3, 9);
        noBetween(BILLION, BILLION);
        noBetween(-BILLION, BILLION);
        noBetween(999999999, 333333333);
    }

    // Promise 21: "Throws `IllegalArgumentException` if an argument is out of range, a fraction is not in lowest terms,
    // or both are the same"
    private static void betweenBothTheSame() {
        int[][] rows = {{0, 1}, {1, 1}, {-7, 9}, {BILLION, 1}, {-BILLION, 999999999}, {999999999, BILLION}};
        for (int[] row : rows) {
            String what = row[0] + "/" + row[1] + " twice";
            Bounds.noArgument(what, Bounds::fresh, x -> x.between(row[0], row[1], row[0], row[1], true));
            Bounds.noArgument(what, Bounds::fresh, x -> x.between(row[0], row[1], row[0], row[1], false));
        }
        betweenIs(1999999997L, 1999999999L, 999999998, 999999999, 999999999, BILLION);
    }

    // Promise 21: "- `isTop`: whether what is above is asked; otherwise what is below"
    private static void betweenAboveAndBelow() {
        Bounds.due("above", 2L, Bounds::fresh, x -> x.between(1, 3, 1, 2, true));
        Bounds.due("below", 5L, Bounds::fresh, x -> x.between(1, 3, 1, 2, false));
        Bounds.due("above, with a sign", -2L, Bounds::fresh, x -> x.between(-1, 3, -1, 2, true));
        Bounds.due("below, without one", 5L, Bounds::fresh, x -> x.between(-1, 3, -1, 2, false));
        Bounds.due("0 above", 0L, Bounds::fresh, x -> x.between(-1, 3, 1, 2, true));
        Bounds.due("1 below", 1L, Bounds::fresh, x -> x.between(-1, 3, 1, 2, false));
    }

    // Promise 21, Terms: "Between two unlike fractions lie others; the one with the least q, of several the lowest, has
    // the greatest circle there."
    private static void betweenTheLeastBottom() {
        betweenIs(1, 2, 1, 3, 2, 3);
        betweenIs(1, 2, 2, 5, 3, 5);
        betweenIs(1, 3, 1, 4, 1, 2);
        betweenIs(3, 8, 1, 3, 2, 5);
        betweenIs(-3, 8, -1, 3, -2, 5);
        betweenIs(25, 8, 311, 100, 157, 50);
    }

    // Promise 21, Terms: "Between two unlike fractions lie others; the one with the least q, of several the lowest, has
    // the greatest circle there."
    private static void betweenTheLowestOfSeveral() {
        betweenIs(1, 1, 0, 1, 9, 1);
        betweenIs(-8, 1, -9, 1, 0, 1);
        betweenIs(-8, 1, -9, 1, 9, 1);
        betweenIs(1, 1, 1, 2, 9, 2);
        betweenIs(-4, 1, -9, 2, -1, 2);
        betweenIs(0, 1, -1, 2, 7, 2);
        // The ends themselves do not lie between.
        betweenIs(1, 1, 0, 1, 2, 1);
        betweenIs(3, 2, 1, 1, 2, 1);
        betweenIs(-3, 2, -2, 1, -1, 1);
    }

    // Promise 21, Terms: "All that is exact is exact."
    private static void betweenAtTheEnds() {
        betweenIs(1000000000L, 1000000001L, 999999999, BILLION, 1, 1);
        betweenIs(-1, 1000000001L, -1, BILLION, 0, 1);
        betweenIs(2, 1999999999L, 1, BILLION, 1, 999999999);
        betweenIs(-2, 1999999999L, -1, BILLION, -1, 999999999);
        betweenIs(2, 1, 999999999, 1, BILLION, 999999999);
        betweenIs(-1, 1, -BILLION, 999999999, 999999999, BILLION);
    }

    // Promise 21, Terms: "Between two unlike fractions lie others"
    private static void betweenTheNearest() {
        // 433494437 / 701408733 and the one behind it in the row 1, 1, 2, 3, 5 and so on: all terms of the chain are 1.
        betweenIs(701408733, 1134903170L, 433494437, 701408733, 267914296, 433494437);
        betweenIs(-701408733, 1134903170L, -433494437, 701408733, -267914296, 433494437);
        // Two of the greatest bottoms, which differ by one in a billion times a billion.
        betweenIs(1999999997L, 1999999999L, 999999999, BILLION, 999999998, 999999999);
    }

    // Promise 21: "Returns the number above or below."
    private static void betweenReturnsTheNumber() {
        betweenIs(-999999999, 1, -BILLION, 1, BILLION, 1);
        betweenIs(1999999999L, 2, BILLION, 1, 999999999, 1);
        betweenIs(-1999999999L, 2, -BILLION, 1, -999999999, 1);
    }

    // Promise 21, Terms: "A fraction p / q is told in lowest terms, q above 0."
    private static void betweenIsToldInLowestTerms() {
        betweenIs(0, 1, -1, 7, 1, 7);
        betweenIs(1, 2, 2, 7, 5, 7);
        betweenIs(-1, 2, -2, 7, -5, 7);
    }
}
