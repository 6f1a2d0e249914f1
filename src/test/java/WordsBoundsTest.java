/** Promises 22 to 26 where they end; each test is headed by the sentence that it is of. */
public final class WordsBoundsTest {
    private static final int BILLION = 1000000000;
    private static final int MOST = Integer.MAX_VALUE;
    private static final int LEAST = Integer.MIN_VALUE;

    // Three moves one behind the other, of which a comes to just a billion, and to one more; all else stays below.
    private static final int[][] TO_THE_MOST = {{958, 931, 71, 69}, {929, -101, 975, -106}, {644, 241, 807, 302}};
    private static final int[][] TO_ONE_ABOVE = {{903, 998, 19, 21}, {927, 139, 947, 142}, {444, 83, 781, 146}};
    private static final int[] SWAPPED = {0, -1, 1, 0};
    private static final int[] SWAPPED_BACK = {0, 1, -1, 0};
    private static final int[] SAME = {1, 0, 0, 1};
    private static final int[] SIGNS = {-1, 0, 0, -1};

    public static void main(String[] args) {
        movesAreAtMostFour();
        tellA();
        tellB();
        tellC();
        tellD();
        tellReturnsItsNumber();
        tellBeyondTheRanges();
        tellOfNoMove();
        tellOfFour();
        tellTellsTheArgumentFirst();
        refusedTellTakesNoNumber();
        wordAtFirst();
        appendMoves();
        appendNoSuchMove();
        for (int place = 0; place < 4; place++) {
            appendUpToTheMost(place, BILLION);
            appendUpToTheMost(place, -BILLION);
            appendAboveTheMost(place, 1);
            appendAboveTheMost(place, -1);
        }
        appendTellsTheMoveFirst();
        refusedAppendLeavesTheWord();
        appendOfTheGreatestTrace();
        appendAndUndo();
        appendIsDoneAheadOfAll();
        homeReturnsTheTraceBefore();
        homeKeepsTheMoves();
        wordWhats();
        wordOutOfRange();
        kindOfNone();
        kindOfTheTrace();
        imageTops();
        imageBottoms();
        imageOutOfRange();
        imageAboveAndBelow();
        imageOfZeroBelow();
        imageNotInLowestTerms();
        imageOfWhatIsBeyondAll();
        imageThatComesBeyondAll();
        imageBottomNotBelowZero();
        imageReturnsTheNumber();
        imageAtTheEnds();
        Check.end();
    }

    private static Bounds.Maker told(int[]... moves) {
        return () -> {
            Koebehall x = new Koebehall();
            for (int[] move : moves) {
                x.tell(move[0], move[1], move[2], move[3]);
            }
            return x;
        };
    }

    private static Bounds.Maker appended(int[]... moves) {
        return () -> {
            Koebehall x = told(moves).made();
            for (int move = 0; move < moves.length; move++) {
                x.append(move, false);
            }
            return x;
        };
    }

    private static Koebehall one() {
        return appended(new int[] {2, 1, 1, 1}).made();
    }

    private static Koebehall three() {
        return told(SAME, SWAPPED, SIGNS).made();
    }

    private static Koebehall four() {
        return told(SAME, SWAPPED, SIGNS, new int[] {2, 1, 1, 1}).made();
    }

    private static int[] times(int[] v, int[] w) {
        return new int[] {v[0] * w[0] + v[1] * w[2], v[0] * w[1] + v[1] * w[3], v[2] * w[0] + v[3] * w[2],
            v[2] * w[1] + v[3] * w[3]};
    }

    /** The rows of three moves, turned so that what comes to a otherwise comes to the place, perhaps with a sign. */
    private static int[][] turnedTo(int place, boolean isBelow, int[][] moves) {
        int[] first = times(place < 2 ? SAME : SWAPPED, moves[0]);
        int[] last = times(moves[2], place % 2 == 0 ? SAME : SWAPPED_BACK);
        return new int[][] {times(isBelow ? SIGNS : SAME, first), moves[1], last};
    }

    private static void words(String what, Bounds.Maker maker, int... due) {
        for (int place = 0; place < 4; place++) {
            int at = place;
            Bounds.due(what + ": word(" + at + ")", due[at], maker, x -> x.word(at));
        }
    }

    private static void noImage(int p, int q) {
        String what = "image(" + p + ", " + q + ")";
        Bounds.noArgument(what + " above", WordsBoundsTest::one, x -> x.image(p, q, true));
        Bounds.noArgument(what + " below", WordsBoundsTest::one, x -> x.image(p, q, false));
    }

    private static void imageIs(long top, long bottom, Bounds.Maker maker, int p, int q) {
        String what = "image(" + p + ", " + q + ")";
        Bounds.due(what + " above", top, maker, x -> x.image(p, q, true));
        Bounds.due(what + " below", bottom, maker, x -> x.image(p, q, false));
    }

    // Promise 22, Terms: "Moves are numbered from 0, at most 4."
    private static void movesAreAtMostFour() {
        Bounds.due("the first", 0, Bounds::fresh, x -> x.tell(1, 0, 0, 1));
        Bounds.due("the second", 1, told(SAME), x -> x.tell(1, 0, 0, 1));
        Bounds.due("the third", 2, told(SAME, SAME), x -> x.tell(1, 0, 0, 1));
        Bounds.due("the fourth", 3, WordsBoundsTest::three, x -> x.tell(1, 0, 0, 1));
        Bounds.due("the fourth is there", 3, WordsBoundsTest::four, x -> x.append(3, false));
    }

    private static void tellsAll(int a, int b, int c, int d) {
        int[] row = {a, b, c, d};
        Bounds.due("told", 0, Bounds::fresh, x -> x.tell(a, b, c, d));
        words("appended", appended(row), a, b, c, d);
        words("undone", () -> {
            Koebehall x = told(row).made();
            x.append(0, true);
            return x;
        }, d, -b, -c, a);
    }

    private static void tellsNot(int a, int b, int c, int d) {
        String what = "tell(" + a + ", " + b + ", " + c + ", " + d + ")";
        Bounds.noArgument(what, WordsBoundsTest::one, x -> x.tell(a, b, c, d));
    }

    // Promise 22: "- `a`: -1000 to 1000"
    private static void tellA() {
        tellsAll(-1000, 999, 1, -1);
        tellsAll(1000, 999, 1, 1);
        tellsNot(-1001, 1000, 1, -1);
        tellsNot(1001, 1000, 1, 1);
    }

    // Promise 22: "- `b`: -1000 to 1000"
    private static void tellB() {
        tellsAll(1, -1000, 0, 1);
        tellsAll(1, 1000, 0, 1);
        tellsNot(1, -1001, 0, 1);
        tellsNot(1, 1001, 0, 1);
    }

    // Promise 22: "- `c`: -1000 to 1000"
    private static void tellC() {
        tellsAll(1, 0, -1000, 1);
        tellsAll(1, 0, 1000, 1);
        tellsNot(1, 0, -1001, 1);
        tellsNot(1, 0, 1001, 1);
    }

    // Promise 22: "- `d`: -1000 to 1000"
    private static void tellD() {
        tellsAll(-1, 999, 1, -1000);
        tellsAll(1, 999, 1, 1000);
        tellsNot(-1, 1000, 1, -1001);
        tellsNot(1, 1000, 1, 1001);
    }

    // Promise 22: "Returns its number."
    private static void tellReturnsItsNumber() {
        Bounds.due("the first", 0, Bounds::fresh, x -> x.tell(2, 1, 1, 1));
        Bounds.due("the last", 3, WordsBoundsTest::three, x -> x.tell(2, 1, 1, 1));
        tellsAll(999, 1000, 998, 999);
        tellsAll(-999, -1000, -998, -999);
    }

    // Promise 22: "Throws `IllegalArgumentException` if an argument is out of range, or a d less b c is not 1"
    private static void tellBeyondTheRanges() {
        tellsNot(MOST, 0, 0, MOST);
        tellsNot(LEAST, 1, -1, 0);
        tellsNot(LEAST, -1, 1, 0);
        tellsNot(1, LEAST, 0, 1);
        tellsNot(1, MOST, 0, 1);
        tellsNot(1, 0, LEAST, 1);
        tellsNot(1, 0, MOST, 1);
        tellsNot(0, -1, 1, LEAST);
        tellsNot(0, -1, 1, MOST);
        // 65537 times 65537 less 131072 is 1 as an int.
        tellsNot(65537, 131072, 1, 65537);
    }

    // Promise 22: "Throws `IllegalArgumentException` if an argument is out of range, or a d less b c is not 1"
    private static void tellOfNoMove() {
        tellsNot(0, 0, 0, 0);
        tellsNot(1, 1, 1, 1);
        tellsNot(2, 1, 1, 0);
        tellsNot(2, 0, 0, 1);
        tellsNot(3, 1, 1, 1);
        tellsNot(1, 0, 0, -1);
        tellsNot(0, 1, 1, 0);
        tellsNot(1000, 0, 0, 1000);
        tellsNot(1000, 1000, -1000, 1000);
        tellsNot(1000, -1000, 1000, -1000);
    }

    // Promise 22: "Throws `IllegalStateException` if there are 4"
    private static void tellOfFour() {
        Bounds.due("there are 3", 3, WordsBoundsTest::three, x -> x.tell(2, 1, 1, 1));
        Bounds.noState("there are 4", WordsBoundsTest::four, x -> x.tell(2, 1, 1, 1));
        Bounds.noState("there are 4, and it is one of them", WordsBoundsTest::four, x -> x.tell(1, 0, 0, 1));
    }

    // Promise 22, Terms: "If several apply, the one that the throws clause names first is thrown."
    private static void tellTellsTheArgumentFirst() {
        Bounds.noArgument("beyond the range, of 4", WordsBoundsTest::four, x -> x.tell(1, 1001, 0, 1));
        Bounds.noArgument("no move, of 4", WordsBoundsTest::four, x -> x.tell(1, 0, 0, -1));
    }

    // Promise 22, Terms: "A call that throws an exception changes nothing."
    private static void refusedTellTakesNoNumber() {
        Koebehall x = new Koebehall();
        Check.noArgument("no move", () -> x.tell(1, 0, 0, -1));
        Check.noIndex("none yet", () -> x.append(0, false));
        Check.due("the first is still to come", 0, () -> x.tell(2, 1, 1, 1));
        Check.noArgument("beyond the range", () -> x.tell(1, 1001, 0, 1));
        Check.due("the second is still to come", 1, () -> x.tell(0, -1, 1, 0));
        Check.due("the first is as told", 3, () -> x.append(0, false));
    }

    // Promise 25, Terms: "The word has such numbers, too, 1, 0, 0, 1 at first"
    private static void wordAtFirst() {
        words("at first", Bounds::fresh, 1, 0, 0, 1);
        words("moves that are told leave it", WordsBoundsTest::four, 1, 0, 0, 1);
        Bounds.due("its kind", 0, Bounds::fresh, x -> x.word(4));
    }

    // Promise 23: "- `move`: its number"
    private static void appendMoves() {
        Bounds.due("the first", 2, WordsBoundsTest::four, x -> x.append(0, false));
        Bounds.due("the last", 3, WordsBoundsTest::four, x -> x.append(3, false));
        Bounds.noIndex("below the first", WordsBoundsTest::four, x -> x.append(-1, false));
        Bounds.noIndex("above the last", WordsBoundsTest::four, x -> x.append(4, false));
    }

    // Promise 23: "Throws `IndexOutOfBoundsException` if there is no such move"
    private static void appendNoSuchMove() {
        Bounds.noIndex("none yet", Bounds::fresh, x -> x.append(0, false));
        Bounds.noIndex("none yet, undone", Bounds::fresh, x -> x.append(0, true));
        for (int move : new int[] {-1, 1, 3, 4, LEAST, MOST}) {
            Bounds.noIndex("append(" + move + ") of 1", WordsBoundsTest::one, x -> x.append(move, false));
            Bounds.noIndex("append(" + move + ") of 1, undone", WordsBoundsTest::one, x -> x.append(move, true));
        }
        Bounds.due("the last of 4, undone", 3, WordsBoundsTest::four, x -> x.append(3, true));
        Bounds.noIndex("one beyond 4", WordsBoundsTest::four, x -> x.append(4, true));
    }

    private static Bounds.Maker lastToCome(int[][] moves) {
        return () -> {
            Koebehall x = told(moves).made();
            x.append(0, false);
            x.append(1, false);
            return x;
        };
    }

    private static Bounds.Maker lastToUndo(int[][] moves) {
        int[] last = moves[2];
        return lastToCome(new int[][] {moves[0], moves[1], {last[3], -last[1], -last[2], last[0]}});
    }

    // Promise 23: "Throws `IllegalStateException` if a number of the word would be above 1000000000, or below that with
    // a sign"
    private static void appendUpToTheMost(int place, int most) {
        int[][] moves = turnedTo(place, most < 0, TO_THE_MOST);
        String what = "just " + most + " at " + place;
        Bounds.due(what, most, lastToCome(moves), x -> {
            x.append(2, false);
            return x.word(place);
        });
        Bounds.due(what + ", undone", most, lastToUndo(moves), x -> {
            x.append(2, true);
            return x.word(place);
        });
    }

    // Promise 23: "Throws `IllegalStateException` if a number of the word would be above 1000000000, or below that with
    // a sign"
    private static void appendAboveTheMost(int place, int sign) {
        int[][] moves = turnedTo(place, sign < 0, TO_ONE_ABOVE);
        String what = "one beyond at " + place + ", with the sign " + sign;
        Bounds.noState(what, lastToCome(moves), x -> x.append(2, false));
        Bounds.noState(what + ", undone", lastToUndo(moves), x -> x.append(2, true));
    }

    // Promise 23, Terms: "If several apply, the one that the throws clause names first is thrown."
    private static void appendTellsTheMoveFirst() {
        Bounds.noState("the third of 3 goes too far", lastToCome(TO_ONE_ABOVE), x -> x.append(2, false));
        Bounds.noIndex("there is no fourth", lastToCome(TO_ONE_ABOVE), x -> x.append(3, false));
        Bounds.noIndex("there is none at -1", lastToCome(TO_ONE_ABOVE), x -> x.append(-1, true));
    }

    // Promise 23, Terms: "A call that throws an exception changes nothing."
    private static void refusedAppendLeavesTheWord() {
        Koebehall x = lastToCome(TO_ONE_ABOVE).made();
        Check.noState("one above", () -> x.append(2, false));
        Check.noIndex("no fourth", () -> x.append(3, false));
        Check.due("the second is undone", 924, () -> x.append(1, true));
        Check.due("the first is undone", 2, () -> x.append(0, true));
        Check.due("the word is as at first", 0, () -> x.word(4));
        Check.due("the third is still there", 444 + 146, () -> x.append(2, false));
    }

    // Promise 23: "Returns the trace then."
    private static void appendOfTheGreatestTrace() {
        Bounds.due("above 0", 2, told(SAME), x -> x.append(0, false));
        Bounds.due("below 0", -2, told(SIGNS), x -> x.append(0, false));
        Bounds.due("0", 0, told(SWAPPED), x -> x.append(0, false));
        Bounds.due("of the most", 1027734924, lastToCome(TO_THE_MOST), x -> x.append(2, false));
        Bounds.due("of the most, with a sign", -1027734924, lastToCome(turnedTo(0, true, TO_THE_MOST)),
                x -> x.append(2, false));
    }

    // Promise 23: "- `isUndo`: whether it is undone: d, -b, -c, a"
    private static void appendAndUndo() {
        int[] move = {2, 3, 5, 8};
        words("appended", appended(move), 2, 3, 5, 8);
        words("and undone", () -> {
            Koebehall x = appended(move).made();
            x.append(0, true);
            return x;
        }, 1, 0, 0, 1);
        words("undone alone", () -> {
            Koebehall x = told(move).made();
            x.append(0, true);
            return x;
        }, 8, -3, -5, 2);
    }

    // Promise 23, Terms: "to append a move, or what undoes it, is to put the product of the word and that, as of tables
    // of two rows, in place of the word: what is appended is done ahead of all."
    private static void appendIsDoneAheadOfAll() {
        int[] first = {2, 3, 5, 8};
        int[] second = {1, 4, 0, 1};
        words("first and second", appended(first, second), 2, 11, 5, 28);
        words("second and first", appended(second, first), 22, 35, 5, 8);
        // The second brings 0 to 4, the first 4 to 11 / 28.
        imageIs(11, 28, appended(first, second), 0, 1);
    }

    // Promise 24: "Returns the trace before."
    private static void homeReturnsTheTraceBefore() {
        Bounds.due("at first", 2, Bounds::fresh, x -> x.home());
        Bounds.due("of one", 3, WordsBoundsTest::one, x -> x.home());
        Bounds.due("below 0", -2, appended(SIGNS), x -> x.home());
        Bounds.due("the greatest one here", 1027734924, appended(TO_THE_MOST), x -> x.home());
        Bounds.due("twice", 2, WordsBoundsTest::one, x -> {
            x.home();
            return x.home();
        });
    }

    // Promise 24: "Makes the word as at first."
    private static void homeKeepsTheMoves() {
        Bounds.Maker home = () -> {
            Koebehall x = appended(TO_THE_MOST).made();
            x.home();
            return x;
        };
        words("home", home, 1, 0, 0, 1);
        Bounds.due("the next move has the next number", 3, home, x -> x.tell(1, 0, 0, 1));
        Bounds.due("the first one is as told", 958 + 69, home, x -> x.append(0, false));
        Bounds.noIndex("there is no fourth", home, x -> x.append(3, false));
    }

    // Promise 25: "- `what`: 0 to 3: a to d, 4 its kind: 0 if it is 1, 0, 0, 1 or that with signs turned, 1 if its
    // trace is from -1 to 1, 2 if that is 2 or -2, 3 otherwise"
    private static void wordWhats() {
        words("all four", appended(new int[] {3, -7, 1, -2}), 3, -7, 1, -2);
        Bounds.due("the kind", 1, appended(new int[] {3, -7, 1, -2}), x -> x.word(4));
        Bounds.noIndex("below the first", appended(new int[] {3, -7, 1, -2}), x -> x.word(-1));
        Bounds.noIndex("above the last", appended(new int[] {3, -7, 1, -2}), x -> x.word(5));
    }

    // Promise 25: "Throws `IndexOutOfBoundsException` if what is out of range"
    private static void wordOutOfRange() {
        for (int what : new int[] {-1, 5, LEAST, MOST}) {
            Bounds.noIndex("word(" + what + ") at first", Bounds::fresh, x -> x.word(what));
            Bounds.noIndex("word(" + what + ")", WordsBoundsTest::one, x -> x.word(what));
        }
    }

    private static void kind(int due, int a, int b, int c, int d) {
        Bounds.due("the kind of " + a + ", " + b + ", " + c + ", " + d, due, appended(new int[] {a, b, c, d}),
                x -> x.word(4));
    }

    // Promise 25: "0 if it is 1, 0, 0, 1 or that with signs turned"
    private static void kindOfNone() {
        kind(0, 1, 0, 0, 1);
        kind(0, -1, 0, 0, -1);
        kind(2, 1, 1, 0, 1);
        kind(2, 1, 0, 1, 1);
        kind(2, -1, 0, -1, -1);
        kind(2, -1, -1, 0, -1);
    }

    // Promise 25: "1 if its trace is from -1 to 1, 2 if that is 2 or -2, 3 otherwise"
    private static void kindOfTheTrace() {
        kind(1, 0, -1, 1, 0);
        kind(1, 0, -1, 1, 1);
        kind(1, 0, -1, 1, -1);
        kind(2, 0, -1, 1, 2);
        kind(2, 0, -1, 1, -2);
        kind(3, 0, -1, 1, 3);
        kind(3, 0, -1, 1, -3);
        kind(3, 1, 999, 1, 1000);
        Bounds.due("the kind of the most", 3, appended(TO_THE_MOST), x -> x.word(4));
    }

    // Promise 26: "- `p`: -1000000000 to 1000000000"
    private static void imageTops() {
        imageIs(BILLION, 1, Bounds::fresh, BILLION, 1);
        imageIs(-BILLION, 1, Bounds::fresh, -BILLION, 1);
        imageIs(0, 1, Bounds::fresh, 0, 1);
        noImage(-BILLION - 1, 1);
        noImage(BILLION + 1, 1);
    }

    // Promise 26: "- `q`: 0 to 1000000000"
    private static void imageBottoms() {
        imageIs(1, 0, Bounds::fresh, 1, 0);
        imageIs(1, BILLION, Bounds::fresh, 1, BILLION);
        imageIs(-1, BILLION, Bounds::fresh, -1, BILLION);
        noImage(1, -1);
        noImage(1, BILLION + 1);
    }

    // Promise 26: "Throws `IllegalArgumentException` if an argument is out of range, the fraction is not in lowest
    // terms, or q is 0 and p is not 1"
    private static void imageOutOfRange() {
        for (int far : new int[] {2 * BILLION, -2 * BILLION, MOST, LEAST}) {
            noImage(far, 1);
            noImage(1, far);
            noImage(far, 0);
            noImage(far, far);
        }
    }

    // Promise 26: "- `isTop`: whether what is above is asked; otherwise what is below"
    private static void imageAboveAndBelow() {
        Bounds.due("above", 7L, WordsBoundsTest::one, x -> x.image(2, 3, true));
        Bounds.due("below", 5L, WordsBoundsTest::one, x -> x.image(2, 3, false));
        Bounds.due("above, with a sign", -1L, WordsBoundsTest::one, x -> x.image(-2, 3, true));
        Bounds.due("below, without one", 1L, WordsBoundsTest::one, x -> x.image(-2, 3, false));
    }

    // Promise 26: "Throws `IllegalArgumentException` if an argument is out of range, the fraction is not in lowest
    // terms, or q is 0 and p is not 1"
    private static void imageOfZeroBelow() {
        imageIs(2, 1, WordsBoundsTest::one, 1, 0);
        noImage(0, 0);
        noImage(-1, 0);
        noImage(2, 0);
        noImage(-2, 0);
        noImage(BILLION, 0);
        noImage(-BILLION, 0);
    }

    // Promise 26: "Throws `IllegalArgumentException` if an argument is out of range, the fraction is not in lowest
    // terms, or q is 0 and p is not 1"
    private static void imageNotInLowestTerms() {
        imageIs(1, 1, WordsBoundsTest::one, 0, 1);
        noImage(0, 2);
        noImage(0, BILLION);
        noImage(2, 2);
        noImage(-3, 9);
        noImage(BILLION, BILLION);
        noImage(-BILLION, BILLION);
        noImage(-BILLION, 5);
        noImage(999999999, 333333333);
    }

    // Promise 26, Terms: "1 / 0 stands for what is beyond all, also where it would come as -1 / 0."
    private static void imageOfWhatIsBeyondAll() {
        imageIs(1, 0, Bounds::fresh, 1, 0);
        imageIs(2, 1, WordsBoundsTest::one, 1, 0);
        imageIs(-1, 2, appended(new int[] {1, 0, -2, 1}), 1, 0);
        imageIs(0, 1, appended(SWAPPED), 1, 0);
        imageIs(0, 1, appended(SWAPPED_BACK), 1, 0);
    }

    // Promise 26, Terms: "1 / 0 stands for what is beyond all, also where it would come as -1 / 0."
    private static void imageThatComesBeyondAll() {
        imageIs(1, 0, appended(SIGNS), 1, 0);
        imageIs(1, 0, appended(SWAPPED), 0, 1);
        imageIs(1, 0, appended(SWAPPED_BACK), 0, 1);
        imageIs(1, 0, WordsBoundsTest::one, -1, 1);
        imageIs(1, 0, appended(new int[] {-2, -1, -1, -1}), -1, 1);
    }

    // Promise 26, Terms: "told in lowest terms, q not below 0"
    private static void imageBottomNotBelowZero() {
        imageIs(2, 3, appended(SIGNS), 2, 3);
        imageIs(-2, 3, appended(SIGNS), -2, 3);
        imageIs(0, 1, appended(SIGNS), 0, 1);
        imageIs(-3, 2, appended(SWAPPED), 2, 3);
        imageIs(3, 2, appended(SWAPPED), -2, 3);
        imageIs(-3, 2, appended(SWAPPED_BACK), 2, 3);
    }

    // Promise 26: "Returns the number above or below."
    private static void imageReturnsTheNumber() {
        imageIs(3, 2, WordsBoundsTest::one, 1, 1);
        imageIs(2000000001L, 1000000001L, WordsBoundsTest::one, BILLION, 1);
        imageIs(-2000000001L, 1000000001L, appended(new int[] {2, -1, -1, 1}), -BILLION, 1);
    }

    // Promise 26, Terms: "All that is exact is exact."
    private static void imageAtTheEnds() {
        // The word is 1000000000, 374223299, 74113301, 27734924.
        imageIs(1374223298625776701L, 101848224972265076L, appended(TO_THE_MOST), BILLION, 999999999);
        imageIs(625776700000000000L, 46378376925886699L, appended(TO_THE_MOST), -999999999, BILLION);
    }
}
