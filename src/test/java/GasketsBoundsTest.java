/** Promises 12 to 19 where they end; each test is headed by the sentence that it is of. */
public final class GasketsBoundsTest {
    private static final int MILLION = 1000000;
    private static final long MOST_CURVATURE = 1000000000000000L;
    private static final int MOST = Integer.MAX_VALUE;
    private static final int LEAST = Integer.MIN_VALUE;

    // From 0, 100000, 100000, 0 on, a turn of the place 3 then comes to just the most.
    private static final String TO_THE_MOST = "312313213213213212323132";
    // From -7, 20, 12, 17 on, a turn of the place 3 then comes to one above the most.
    private static final String TO_ONE_ABOVE = "1231231231313121212123232131232121212131313131313131";

    public static void main(String[] args) {
        gasketsAreAtMostEight();
        gasketA();
        gasketB();
        gasketC();
        gasketD();
        gasketReturnsItsNumber();
        gasketBeyondTheRanges();
        gasketOfFourThatAreNone();
        gasketOfASumNotAboveZero();
        gasketOfEight();
        gasketTellsTheArgumentFirst();
        refusedGasketTakesNoNumber();
        turnGaskets();
        turnPlaces();
        turnNoSuchGasketOrPlace();
        turnReturnsTheCurvatureThen();
        turnUpToTheMost();
        turnAboveTheMost();
        turnTellsTheIndexFirst();
        refusedTurnTurnsNothing();
        turnTwice();
        curvatureGaskets();
        curvaturePlaces();
        curvatureNoSuchGasketOrPlace();
        radiusBelowZero();
        radiusInfinite();
        radiusOfTheEnds();
        radiusGaskets();
        radiusPlaces();
        radiusNoSuchGasketOrPlace();
        rootGaskets();
        rootRanks();
        rootOfOtherFours();
        rootNoSuchGasketOrRank();
        rootOfSeveralGreatest();
        rootThatIsTold();
        boundedBelowZero();
        countReturnsHowMany();
        countAnewReturnsHowMany();
        countGaskets();
        countBounds();
        countNoSuchGasket();
        countBoundOutOfRange();
        countOfNoBoundedGasket();
        countTellsInOrder();
        countAtMostTheBound();
        countAnewGaskets();
        countAnewBounds();
        countAnewNoSuchGasket();
        countAnewBoundOutOfRange();
        countAnewOfNoBoundedGasket();
        countAnewTellsInOrder();
        countAnewAtMostTheBound();
        countOfAlikeCurvatures();
        countOfARootAboveTheBound();
        remaindersGaskets();
        remaindersBys();
        remaindersNoSuchGasket();
        remaindersByOutOfRange();
        remaindersTellTheGasketFirst();
        remaindersBelowZero();
        remaindersAsTheyAre();
        Check.end();
    }

    private static Bounds.Maker of(int a, int b, int c, int d) {
        return () -> {
            Koebehall x = new Koebehall();
            x.gasket(a, b, c, d);
            return x;
        };
    }

    private static Koebehall one() {
        return of(-1, 2, 2, 3).made();
    }

    private static Koebehall many(int many) {
        Koebehall x = new Koebehall();
        for (int gasket = 0; gasket < many; gasket++) {
            x.gasket(-1, 2, 2, 3);
        }
        return x;
    }

    private static Koebehall seven() {
        return many(7);
    }

    private static Koebehall eight() {
        return many(8);
    }

    private static Koebehall turned(Bounds.Maker maker, String places) {
        Koebehall x = maker.made();
        for (int at = 0; at < places.length(); at++) {
            x.turn(0, places.charAt(at) - '0');
        }
        return x;
    }

    private static Koebehall beforeTheMost() {
        return turned(of(0, 100000, 100000, 0), TO_THE_MOST);
    }

    private static Koebehall atTheMost() {
        return turned(of(0, 100000, 100000, 0), TO_THE_MOST + "3");
    }

    private static Koebehall beforeOneAbove() {
        return turned(of(-7, 20, 12, 17), TO_ONE_ABOVE);
    }

    private static void four(String what, Bounds.Maker maker, long... due) {
        for (int place = 0; place < 4; place++) {
            int at = place;
            Bounds.due(what + ": curvature(0, " + at + ")", due[at], maker, x -> x.curvature(0, at));
        }
    }

    private static void root(String what, Bounds.Maker maker, long... due) {
        for (int rank = 0; rank < 4; rank++) {
            int at = rank;
            Bounds.due(what + ": root(0, " + at + ")", due[at], maker, x -> x.root(0, at));
        }
    }

    private static void counted(String what, int due, Bounds.Maker maker, int bound) {
        Bounds.due(what + ": count(0, " + bound + ")", due, maker, x -> x.count(0, bound));
        Bounds.due(what + ": countAnew(0, " + bound + ")", due, maker, x -> x.countAnew(0, bound));
    }

    // Promise 12, Terms: "Gaskets are numbered from 0, at most 8."
    private static void gasketsAreAtMostEight() {
        for (int gasket = 0; gasket < 8; gasket++) {
            int due = gasket;
            Bounds.due("behind " + due, due, () -> many(due), x -> x.gasket(0, 0, 1, 1));
        }
        Bounds.due("the last one is there", -1L, GasketsBoundsTest::eight, x -> x.curvature(7, 0));
    }

    /** The first of the four at the place, and what stands there at the place 0. */
    private static int[] placed(int place, int... four) {
        int[] row = four.clone();
        row[0] = four[place];
        row[place] = four[0];
        return row;
    }

    private static void gasketHas(int place, int... four) {
        int[] row = placed(place, four);
        Bounds.due(row[place] + " at " + place, 0, Bounds::fresh, x -> x.gasket(row[0], row[1], row[2], row[3]));
        four("with " + row[place] + " at " + place, of(row[0], row[1], row[2], row[3]), row[0], row[1], row[2], row[3]);
    }

    private static void gasketHasNot(int place, int... four) {
        int[] row = placed(place, four);
        Bounds.noArgument(row[place] + " at " + place, GasketsBoundsTest::one,
                x -> x.gasket(row[0], row[1], row[2], row[3]));
    }

    /**
     * No four within the range have less than -464088 among them, so what is below the range comes with more above it; just
     * above the range is a curvature of a four that else are within it.
     */
    private static void gasketEnds(int place) {
        gasketHas(place, -464088, 999912, MILLION, MILLION);
        gasketHas(place, MILLION, -975, 976, 999561);
        gasketHas(place, MILLION, MILLION, 0, 0);
        gasketHas(place, 0, 0, 1, 1);
        gasketHasNot(place, MILLION + 1, -4, 8609, 823080);
        gasketHasNot(place, MILLION + 1, MILLION + 1, 0, 0);
        gasketHasNot(place, -MILLION - 1, 2000002, 2000002, 3000003);
        gasketHasNot(place, -MILLION, 2000000, 2000000, 3000000);
    }

    // Promise 12: "- `a`: -1000000 to 1000000: the curvature at the place 0"
    private static void gasketA() {
        gasketEnds(0);
    }

    // Promise 12: "- `b`: -1000000 to 1000000"
    private static void gasketB() {
        gasketEnds(1);
    }

    // Promise 12: "- `c`: -1000000 to 1000000"
    private static void gasketC() {
        gasketEnds(2);
    }

    // Promise 12: "- `d`: -1000000 to 1000000"
    private static void gasketD() {
        gasketEnds(3);
    }

    // Promise 12: "Returns its number."
    private static void gasketReturnsItsNumber() {
        Bounds.due("the first", 0, Bounds::fresh, x -> x.gasket(-1, 2, 2, 3));
        Bounds.due("the last", 7, GasketsBoundsTest::seven, x -> x.gasket(-1, 2, 2, 3));
    }

    // Promise 12: "Throws `IllegalArgumentException` if an argument is out of range, or they are none of a gasket"
    private static void gasketBeyondTheRanges() {
        int above = MILLION + 1;
        Bounds.noArgument("a and b above", GasketsBoundsTest::one, x -> x.gasket(above, above, 0, 0));
        Bounds.noArgument("b and c above", GasketsBoundsTest::one, x -> x.gasket(0, above, above, 0));
        Bounds.noArgument("c and d above", GasketsBoundsTest::one, x -> x.gasket(0, 0, above, above));
        // 4, 1, 1 and 0, 333334 times: all else holds.
        Bounds.noArgument("a alone above", GasketsBoundsTest::one, x -> x.gasket(1333336, 333334, 333334, 0));
        Bounds.noArgument("b alone above", GasketsBoundsTest::one, x -> x.gasket(333334, 1333336, 0, 333334));
        Bounds.noArgument("c alone above", GasketsBoundsTest::one, x -> x.gasket(333334, 0, 1333336, 333334));
        Bounds.noArgument("d alone above", GasketsBoundsTest::one, x -> x.gasket(0, 333334, 333334, 1333336));
        // -1, 2, 2 and 3, a million times and once more: one is below, the others above.
        Bounds.noArgument("a below", GasketsBoundsTest::one, x -> x.gasket(-1000001, 2000002, 2000002, 3000003));
        Bounds.noArgument("d below", GasketsBoundsTest::one, x -> x.gasket(2000002, 3000003, 2000002, -1000001));
        for (int beyond : new int[] {MOST, LEAST}) {
            Bounds.noArgument("all " + beyond, GasketsBoundsTest::one, x -> x.gasket(beyond, beyond, beyond, beyond));
            Bounds.noArgument("two " + beyond, GasketsBoundsTest::one, x -> x.gasket(beyond, beyond, 0, 0));
        }
    }

    // Promise 12: "Throws `IllegalArgumentException` if an argument is out of range, or they are none of a gasket"
    private static void gasketOfFourThatAreNone() {
        Bounds.noArgument("49 is not 50", GasketsBoundsTest::one, x -> x.gasket(-1, 2, 2, 4));
        Bounds.noArgument("16 is not 18", GasketsBoundsTest::one, x -> x.gasket(0, 1, 1, 2));
        Bounds.noArgument("one alone", GasketsBoundsTest::one, x -> x.gasket(1, 0, 0, 0));
        Bounds.noArgument("the greatest ones", GasketsBoundsTest::one, x -> x.gasket(MILLION, MILLION, MILLION, MILLION));
        Bounds.noArgument("less by one", GasketsBoundsTest::one, x -> x.gasket(MILLION, 999999, 0, 0));
        // Both squares come to 0 as ints.
        Bounds.noArgument("beyond an int", GasketsBoundsTest::one, x -> x.gasket(65536, 65536, 65536, 65536));
    }

    // Promise 12, Terms: "A gasket is told by four curvatures, whole numbers of which the square of the sum is twice
    // the sum of the squares, and the sum is above 0."
    private static void gasketOfASumNotAboveZero() {
        Bounds.noArgument("the sum is 0", GasketsBoundsTest::one, x -> x.gasket(0, 0, 0, 0));
        Bounds.due("the least sum above 0", 1, GasketsBoundsTest::one, x -> x.gasket(0, 0, 1, 1));
        Bounds.noArgument("the greatest sum below 0", GasketsBoundsTest::one, x -> x.gasket(0, 0, -1, -1));
        Bounds.noArgument("below 0", GasketsBoundsTest::one, x -> x.gasket(1, -2, -2, -3));
        Bounds.noArgument("the least sum", GasketsBoundsTest::one, x -> x.gasket(0, -MILLION, 0, -MILLION));
    }

    // Promise 12: "Throws `IllegalStateException` if there are 8"
    private static void gasketOfEight() {
        Bounds.due("there are 7", 7, GasketsBoundsTest::seven, x -> x.gasket(0, 0, 1, 1));
        Bounds.noState("there are 8", GasketsBoundsTest::eight, x -> x.gasket(0, 0, 1, 1));
        Bounds.noState("there are 8, and it is one of them", GasketsBoundsTest::eight, x -> x.gasket(-1, 2, 2, 3));
    }

    // Promise 12, Terms: "If several apply, the one that the throws clause names first is thrown."
    private static void gasketTellsTheArgumentFirst() {
        int above = MILLION + 1;
        Bounds.noArgument("beyond the range, of 8", GasketsBoundsTest::eight, x -> x.gasket(above, above, 0, 0));
        Bounds.noArgument("none of a gasket, of 8", GasketsBoundsTest::eight, x -> x.gasket(1, 1, 1, 1));
        Bounds.noArgument("a sum of 0, of 8", GasketsBoundsTest::eight, x -> x.gasket(0, 0, 0, 0));
    }

    // Promise 12, Terms: "A call that throws an exception changes nothing."
    private static void refusedGasketTakesNoNumber() {
        Koebehall x = new Koebehall();
        Check.noArgument("a sum of 0", () -> x.gasket(0, 0, 0, 0));
        Check.noIndex("none yet", () -> x.curvature(0, 0));
        Check.due("the first is still to come", 0, () -> x.gasket(-1, 2, 2, 3));
        Check.noArgument("none of a gasket", () -> x.gasket(1, 1, 1, 1));
        Check.due("the second is still to come", 1, () -> x.gasket(-1, 2, 2, 3));
    }

    // Promise 13: "- `gasket`: its number"
    private static void turnGaskets() {
        Bounds.due("the first", 15L, GasketsBoundsTest::eight, x -> x.turn(0, 0));
        Bounds.due("the last", 15L, GasketsBoundsTest::eight, x -> x.turn(7, 0));
        Bounds.noIndex("below the first", GasketsBoundsTest::eight, x -> x.turn(-1, 0));
        Bounds.noIndex("above the last", GasketsBoundsTest::eight, x -> x.turn(8, 0));
    }

    // Promise 13: "- `place`: 0 to 3"
    private static void turnPlaces() {
        Bounds.due("the first", 15L, GasketsBoundsTest::one, x -> x.turn(0, 0));
        Bounds.due("the last", 3L, GasketsBoundsTest::one, x -> x.turn(0, 3));
        Bounds.noIndex("below the first", GasketsBoundsTest::one, x -> x.turn(0, -1));
        Bounds.noIndex("above the last", GasketsBoundsTest::one, x -> x.turn(0, 4));
    }

    // Promise 13: "Throws `IndexOutOfBoundsException` if there is no such gasket or place"
    private static void turnNoSuchGasketOrPlace() {
        Bounds.noIndex("none yet", Bounds::fresh, x -> x.turn(0, 0));
        for (int gasket : new int[] {-1, 1, 7, 8, LEAST, MOST}) {
            Bounds.noIndex("turn(" + gasket + ", 0)", GasketsBoundsTest::one, x -> x.turn(gasket, 0));
        }
        for (int place : new int[] {-1, 4, LEAST, MOST}) {
            Bounds.noIndex("turn(0, " + place + ")", GasketsBoundsTest::one, x -> x.turn(0, place));
        }
    }

    // Promise 13: "Returns the curvature there then."
    private static void turnReturnsTheCurvatureThen() {
        for (int place = 0; place < 4; place++) {
            int at = place;
            Bounds.due("turned at " + at, true, GasketsBoundsTest::one, x -> x.turn(0, at) == x.curvature(0, at));
        }
        four("turned at 0", () -> turned(GasketsBoundsTest::one, "0"), 15, 2, 2, 3);
        four("turned at 1", () -> turned(GasketsBoundsTest::one, "1"), -1, 6, 2, 3);
        four("turned at 2", () -> turned(GasketsBoundsTest::one, "2"), -1, 2, 6, 3);
        four("turned at 3, to the same", () -> turned(GasketsBoundsTest::one, "3"), -1, 2, 2, 3);
    }

    // Promise 13: "Throws `IllegalStateException` if that would be above 1000000000000000"
    private static void turnUpToTheMost() {
        Bounds.due("just the most", MOST_CURVATURE, GasketsBoundsTest::beforeTheMost, x -> x.turn(0, 3));
        Bounds.due("it stands", MOST_CURVATURE, GasketsBoundsTest::atTheMost, x -> x.curvature(0, 3));
        Bounds.due("and back from it", 174606979600000L, GasketsBoundsTest::atTheMost, x -> x.turn(0, 3));
    }

    // Promise 13: "Throws `IllegalStateException` if that would be above 1000000000000000"
    private static void turnAboveTheMost() {
        Bounds.noState("one above", GasketsBoundsTest::beforeOneAbove, x -> x.turn(0, 3));
        for (int place = 0; place < 3; place++) {
            int at = place;
            Bounds.noState("far above", GasketsBoundsTest::atTheMost, x -> x.turn(0, at));
        }
        root("of one that is refused", GasketsBoundsTest::beforeOneAbove, -7, 12, 17, 20);
        root("of the most", GasketsBoundsTest::atTheMost, 0, 0, 100000, 100000);
    }

    // Promise 13, Terms: "If several apply, the one that the throws clause names first is thrown."
    private static void turnTellsTheIndexFirst() {
        Bounds.noIndex("no gasket 1, at the most", GasketsBoundsTest::atTheMost, x -> x.turn(1, 0));
        Bounds.noIndex("no place 4, at the most", GasketsBoundsTest::atTheMost, x -> x.turn(0, 4));
        Bounds.noIndex("no place -1, at the most", GasketsBoundsTest::atTheMost, x -> x.turn(0, -1));
    }

    // Promise 13, Terms: "A call that throws an exception changes nothing."
    private static void refusedTurnTurnsNothing() {
        Koebehall x = beforeOneAbove();
        long before = x.curvature(0, 3);
        Check.noState("one above", () -> x.turn(0, 3));
        Check.noIndex("no place 4", () -> x.turn(0, 4));
        Check.noIndex("no gasket 1", () -> x.turn(1, 3));
        Check.dueLong("as before", before, x.curvature(0, 3));
        // The last turn that was told, of the place 1, is turned back, and then 3 is turned back too.
        Check.due("turned back", 1, () -> x.turn(0, 1) < MOST_CURVATURE ? 1 : 0);
        Check.due("and back", 1, () -> x.turn(0, 3) < before ? 1 : 0);
    }

    // Promise 13, Terms: "To turn one of the four is to put twice the sum of the other three, less it, in its place."
    private static void turnTwice() {
        for (int place = 0; place < 4; place++) {
            long before = new long[] {-1, 2, 2, 3}[place];
            String once = String.valueOf(place);
            four("turned twice", () -> turned(GasketsBoundsTest::one, once + once), -1, 2, 2, 3);
            Bounds.due("turned back", before, () -> turned(GasketsBoundsTest::one, once), x -> x.turn(0, once.charAt(0) - '0'));
        }
        Bounds.due("below 0 again", -1L, of(15, 2, 2, 3), x -> x.turn(0, 0));
        Bounds.due("0 again", 0L, of(4, 0, 1, 1), x -> x.turn(0, 0));
        Bounds.due("to the same", 1L, of(0, 0, 1, 1), x -> x.turn(0, 2));
    }

    // Promise 14: "Throws `IndexOutOfBoundsException` if there is no such gasket or place"
    private static void curvatureNoSuchGasketOrPlace() {
        Bounds.noIndex("none yet", Bounds::fresh, x -> x.curvature(0, 0));
        for (int gasket : new int[] {-1, 1, 7, 8, LEAST, MOST}) {
            Bounds.noIndex("curvature(" + gasket + ", 0)", GasketsBoundsTest::one, x -> x.curvature(gasket, 0));
            Bounds.noIndex("curvature(" + gasket + ", 4)", GasketsBoundsTest::one, x -> x.curvature(gasket, 4));
        }
        for (int place : new int[] {-1, 4, LEAST, MOST}) {
            Bounds.noIndex("curvature(0, " + place + ")", GasketsBoundsTest::one, x -> x.curvature(0, place));
        }
        Bounds.noIndex("one beyond 8", GasketsBoundsTest::eight, x -> x.curvature(8, 0));
    }

    // Promise 14: "- `gasket`: its number"
    private static void curvatureGaskets() {
        Bounds.due("the first", -1L, GasketsBoundsTest::eight, x -> x.curvature(0, 0));
        Bounds.due("the last", -1L, GasketsBoundsTest::eight, x -> x.curvature(7, 0));
        Bounds.noIndex("below the first", GasketsBoundsTest::eight, x -> x.curvature(-1, 0));
        Bounds.noIndex("above the last", GasketsBoundsTest::eight, x -> x.curvature(8, 0));
    }

    // Promise 14: "- `place`: 0 to 3"
    private static void curvaturePlaces() {
        four("as told", of(7, -2, 6, 3), 7, -2, 6, 3);
        Bounds.noIndex("below the first", of(7, -2, 6, 3), x -> x.curvature(0, -1));
        Bounds.noIndex("above the last", of(7, -2, 6, 3), x -> x.curvature(0, 4));
    }

    // Promise 15: "Returns the radius, below 0 if the curvature is; infinite, above 0, if that is 0."
    private static void radiusBelowZero() {
        Bounds.due("of -1", -1.0f, GasketsBoundsTest::one, x -> x.radius(0, 0));
        Bounds.due("of 2", 0.5f, GasketsBoundsTest::one, x -> x.radius(0, 1));
        Bounds.due("of -333333", 1.0f / -333333.0f, of(-333333, 666666, 666666, 999999), x -> x.radius(0, 0));
    }

    // Promise 15: "Returns the radius, below 0 if the curvature is; infinite, above 0, if that is 0."
    private static void radiusInfinite() {
        Bounds.due("of 0", Float.POSITIVE_INFINITY, of(0, 1, 1, 0), x -> x.radius(0, 0));
        Bounds.due("of 0 at the last place", Float.POSITIVE_INFINITY, of(0, 1, 1, 0), x -> x.radius(0, 3));
        Bounds.due("of 0 that was turned and back", Float.POSITIVE_INFINITY, () -> turned(of(0, 1, 1, 0), "00"),
                x -> x.radius(0, 0));
        Bounds.due("of 0 that was turned", 0.25f, () -> turned(of(0, 1, 1, 0), "0"), x -> x.radius(0, 0));
    }

    // Promise 15: "Returns the radius of one of the four: 1.0 by the curvature, which is made a float first, as
    // floats."
    private static void radiusOfTheEnds() {
        Bounds.due("of the most", 1.0f / 1.0e15f, GasketsBoundsTest::atTheMost, x -> x.radius(0, 3));
        Bounds.due("of a million", 1.0f / 1000000.0f, of(0, 0, MILLION, MILLION), x -> x.radius(0, 3));
        Bounds.due("of 1", 1.0f, of(0, 0, 1, 1), x -> x.radius(0, 3));
        // 49 times 999998 is no float, the nearest one is two more; what it divides is another float than its own part.
        Bounds.Maker noFloat = () -> turned(of(0, 999998, 999998, 0), "313131");
        Bounds.due("what no float is", 48999902L, noFloat, x -> x.curvature(0, 1));
        Bounds.due("of what no float is", 1.0f / 48999904.0f, noFloat, x -> x.radius(0, 1));
        Check.holds("divided as doubles it is another", () -> (float) (1.0 / 48999902.0) != 1.0f / 48999904.0f);
    }

    // Promise 15: "- `gasket`: its number"
    private static void radiusGaskets() {
        Bounds.due("the first", -1.0f, GasketsBoundsTest::eight, x -> x.radius(0, 0));
        Bounds.due("the last", -1.0f, GasketsBoundsTest::eight, x -> x.radius(7, 0));
        Bounds.noIndex("below the first", GasketsBoundsTest::eight, x -> x.radius(-1, 0));
        Bounds.noIndex("above the last", GasketsBoundsTest::eight, x -> x.radius(8, 0));
    }

    // Promise 15: "- `place`: 0 to 3"
    private static void radiusPlaces() {
        Bounds.due("the first", 1.0f / 7.0f, of(7, -2, 6, 3), x -> x.radius(0, 0));
        Bounds.due("the second", -0.5f, of(7, -2, 6, 3), x -> x.radius(0, 1));
        Bounds.due("the third", 1.0f / 6.0f, of(7, -2, 6, 3), x -> x.radius(0, 2));
        Bounds.due("the last", 1.0f / 3.0f, of(7, -2, 6, 3), x -> x.radius(0, 3));
        Bounds.noIndex("below the first", of(7, -2, 6, 3), x -> x.radius(0, -1));
        Bounds.noIndex("above the last", of(7, -2, 6, 3), x -> x.radius(0, 4));
    }

    // Promise 15: "Throws `IndexOutOfBoundsException` if there is no such gasket or place"
    private static void radiusNoSuchGasketOrPlace() {
        Bounds.noIndex("none yet", Bounds::fresh, x -> x.radius(0, 0));
        for (int gasket : new int[] {-1, 1, 7, 8, LEAST, MOST}) {
            Bounds.noIndex("radius(" + gasket + ", 0)", GasketsBoundsTest::one, x -> x.radius(gasket, 0));
        }
        for (int place : new int[] {-1, 4, LEAST, MOST}) {
            Bounds.noIndex("radius(0, " + place + ")", GasketsBoundsTest::one, x -> x.radius(0, place));
        }
        Bounds.due("the last of 8", -1.0f, GasketsBoundsTest::eight, x -> x.radius(7, 0));
        Bounds.noIndex("one beyond 8", GasketsBoundsTest::eight, x -> x.radius(8, 0));
    }

    // Promise 16: "- `gasket`: its number"
    private static void rootGaskets() {
        Bounds.due("the first", -1L, GasketsBoundsTest::eight, x -> x.root(0, 0));
        Bounds.due("the last", -1L, GasketsBoundsTest::eight, x -> x.root(7, 0));
        Bounds.noIndex("below the first", GasketsBoundsTest::eight, x -> x.root(-1, 0));
        Bounds.noIndex("above the last", GasketsBoundsTest::eight, x -> x.root(8, 0));
    }

    // Promise 16: "- `rank`: 0 for the least, to 3"
    private static void rootRanks() {
        root("told from the greatest on", of(3, 2, 2, -1), -1, 2, 2, 3);
        Bounds.noIndex("below the least", of(3, 2, 2, -1), x -> x.root(0, -1));
        Bounds.noIndex("above the greatest", of(3, 2, 2, -1), x -> x.root(0, 4));
    }

    // Promise 16: "Returns a curvature of the root."
    private static void rootOfOtherFours() {
        root("of 15, 2, 38 and 107", of(15, 2, 38, 107), -1, 2, 2, 3);
        root("of a strip", of(9, 4, 0, 1), 0, 0, 1, 1);
        root("of the greatest strip", of(0, MILLION, 0, MILLION), 0, 0, MILLION, MILLION);
        root("of 999 and 1000, squared", of(0, 1, 998001, MILLION), 0, 0, 1, 1);
        root("of the one farthest below 0", of(MILLION, 999912, -464088, MILLION), -464088, 999912, MILLION, MILLION);
        root("of a million in a circle", of(MILLION, 999561, -975, 976), -975, 976, 951600, 951601);
    }

    // Promise 16: "Throws `IndexOutOfBoundsException` if there is no such gasket or rank"
    private static void rootNoSuchGasketOrRank() {
        Bounds.noIndex("none yet", Bounds::fresh, x -> x.root(0, 0));
        for (int gasket : new int[] {-1, 1, 7, 8, LEAST, MOST}) {
            Bounds.noIndex("root(" + gasket + ", 0)", GasketsBoundsTest::one, x -> x.root(gasket, 0));
        }
        for (int rank : new int[] {-1, 4, LEAST, MOST}) {
            Bounds.noIndex("root(0, " + rank + ")", GasketsBoundsTest::one, x -> x.root(0, rank));
        }
        Bounds.due("the least of the last of 8", -1L, GasketsBoundsTest::eight, x -> x.root(7, 0));
        Bounds.due("the greatest of the last of 8", 3L, GasketsBoundsTest::eight, x -> x.root(7, 3));
        Bounds.noIndex("one beyond 8", GasketsBoundsTest::eight, x -> x.root(8, 0));
    }

    // Promise 16, Terms: "The root of a gasket comes by this, done again and again: the greatest of the four, of
    // several the first one, is turned, if it becomes less by that; till it does not."
    private static void rootOfSeveralGreatest() {
        root("two greatest, which do not fall", of(1, 0, 1, 0), 0, 0, 1, 1);
        root("two greatest", of(-3, 8, 8, 5), -3, 5, 8, 8);
        root("two that are alike below the greatest", of(2, 2, 15, 3), -1, 2, 2, 3);
        root("turned to the same", () -> turned(GasketsBoundsTest::one, "3"), -1, 2, 2, 3);
    }

    // Promise 16, Terms: "is turned, if it becomes less by that; till it does not."
    private static void rootThatIsTold() {
        root("the greatest stays as it is when turned", GasketsBoundsTest::one, -1, 2, 2, 3);
        root("the greatest becomes more when turned", of(-6, 11, 14, 15), -6, 11, 14, 15);
        root("one turn away", of(-2, 3, 10, 7), -2, 3, 6, 7);
    }

    // Promises 17 and 18, Terms: "A gasket is bounded, if its root has a curvature below 0."
    private static void boundedBelowZero() {
        counted("-1 is below", 1, GasketsBoundsTest::one, 1);
        counted("the four are above, the root is not", 1, of(15, 2, 2, 3), 1);
        Bounds.noState("0 is not", of(0, 0, 1, 1), x -> x.count(0, 1));
        Bounds.noState("0 is not", of(0, 0, 1, 1), x -> x.countAnew(0, 1));
        Bounds.noState("the four are above, the root is 0", of(4, 12, 1, 1), x -> x.count(0, 1));
        Bounds.noState("the four are above, the root is 0", of(4, 12, 1, 1), x -> x.countAnew(0, 1));
    }

    private interface Counting {
        int counted(Koebehall x, int gasket, int bound);
    }

    private static void countsOfGaskets(Counting how) {
        Bounds.due("the first", 5, GasketsBoundsTest::eight, x -> how.counted(x, 0, 3));
        Bounds.due("the last", 5, GasketsBoundsTest::eight, x -> how.counted(x, 7, 3));
        Bounds.noIndex("below the first", GasketsBoundsTest::eight, x -> how.counted(x, -1, 3));
        Bounds.noIndex("above the last", GasketsBoundsTest::eight, x -> how.counted(x, 8, 3));
    }

    private static void countsOfBounds(Counting how) {
        Bounds.due("the least", 1, of(7, -2, 6, 3), x -> how.counted(x, 0, 1));
        Bounds.due("the greatest", 1301, of(7, -2, 6, 3), x -> how.counted(x, 0, 1000));
        Bounds.noArgument("below the least", of(7, -2, 6, 3), x -> how.counted(x, 0, 0));
        Bounds.noArgument("above the greatest", of(7, -2, 6, 3), x -> how.counted(x, 0, 1001));
    }

    private static void countsWithoutGasket(Counting how) {
        Bounds.noIndex("none yet", Bounds::fresh, x -> how.counted(x, 0, 1));
        for (int gasket : new int[] {-1, 1, 7, 8, LEAST, MOST}) {
            Bounds.noIndex("of " + gasket, GasketsBoundsTest::one, x -> how.counted(x, gasket, 1));
            Bounds.noIndex("of " + gasket, GasketsBoundsTest::one, x -> how.counted(x, gasket, 1000));
        }
    }

    private static void countsOutOfRange(Counting how) {
        for (int bound : new int[] {0, -1, 1001, LEAST, MOST}) {
            Bounds.noArgument("up to " + bound, GasketsBoundsTest::one, x -> how.counted(x, 0, bound));
            Bounds.noArgument("up to " + bound, GasketsBoundsTest::eight, x -> how.counted(x, 7, bound));
        }
    }

    private static void countsOfStrips(Counting how) {
        for (int bound : new int[] {1, 1000}) {
            Bounds.noState("a strip", of(0, 0, 1, 1), x -> how.counted(x, 0, bound));
            Bounds.noState("a strip, turned", of(4, 9, 0, 1), x -> how.counted(x, 0, bound));
            Bounds.noState("a strip, turned wholly", of(4, 12, 1, 1), x -> how.counted(x, 0, bound));
            Bounds.noState("a wide strip", of(0, MILLION, MILLION, 0), x -> how.counted(x, 0, bound));
        }
    }

    private static void countsInOrder(Counting how) {
        for (int bound : new int[] {0, -1, 1001, LEAST, MOST}) {
            Bounds.noIndex("no gasket, no bound", Bounds::fresh, x -> how.counted(x, 0, bound));
            Bounds.noIndex("no gasket beside a strip, no bound", of(0, 0, 1, 1), x -> how.counted(x, 1, bound));
            Bounds.noIndex("no gasket beside a strip, no bound", of(0, 0, 1, 1), x -> how.counted(x, -1, bound));
            Bounds.noArgument("no bound, a strip", of(0, 0, 1, 1), x -> how.counted(x, 0, bound));
        }
        Bounds.noIndex("no gasket beside a strip", of(0, 0, 1, 1), x -> how.counted(x, 1, 1));
    }

    private static void countsUpTo(Counting how) {
        int[][] dues = {{1, 1}, {2, 3}, {3, 5}, {5, 5}, {6, 9}, {10, 9}, {11, 13}, {13, 13}, {14, 17}, {15, 19}};
        for (int[] due : dues) {
            Bounds.due("up to " + due[0], due[1], GasketsBoundsTest::one, x -> how.counted(x, 0, due[0]));
        }
    }

    private static void countsHowMany(Counting how) {
        Bounds.due("the least", 1, of(-1000, 2000, 2000, 3000), x -> how.counted(x, 0, 1000));
        Bounds.due("of the greatest bound", 3329, GasketsBoundsTest::one, x -> how.counted(x, 0, 1000));
    }

    // Promise 17: "Returns how many."
    private static void countReturnsHowMany() {
        countsHowMany(Koebehall::count);
    }

    // Promise 18: "Returns how many."
    private static void countAnewReturnsHowMany() {
        countsHowMany(Koebehall::countAnew);
    }

    // Promise 17: "- `gasket`: its number"
    private static void countGaskets() {
        countsOfGaskets(Koebehall::count);
    }

    // Promise 17: "- `bound`: 1 to 1000"
    private static void countBounds() {
        countsOfBounds(Koebehall::count);
    }

    // Promise 17: "Throws `IndexOutOfBoundsException` if there is no such gasket"
    private static void countNoSuchGasket() {
        countsWithoutGasket(Koebehall::count);
    }

    // Promise 17: "Throws `IllegalArgumentException` if bound is out of range"
    private static void countBoundOutOfRange() {
        countsOutOfRange(Koebehall::count);
    }

    // Promise 17: "Throws `IllegalStateException` if it is not bounded"
    private static void countOfNoBoundedGasket() {
        countsOfStrips(Koebehall::count);
    }

    // Promise 17, Terms: "If several apply, the one that the throws clause names first is thrown."
    private static void countTellsInOrder() {
        countsInOrder(Koebehall::count);
    }

    // Promise 17: "Counts the circles of a bounded gasket that have at most some curvature."
    private static void countAtMostTheBound() {
        countsUpTo(Koebehall::count);
    }

    // Promise 18: "- `gasket`: its number"
    private static void countAnewGaskets() {
        countsOfGaskets(Koebehall::countAnew);
    }

    // Promise 18: "- `bound`: 1 to 1000"
    private static void countAnewBounds() {
        countsOfBounds(Koebehall::countAnew);
    }

    // Promise 18: "Throws `IndexOutOfBoundsException` if there is no such gasket"
    private static void countAnewNoSuchGasket() {
        countsWithoutGasket(Koebehall::countAnew);
    }

    // Promise 18: "Throws `IllegalArgumentException` if bound is out of range"
    private static void countAnewBoundOutOfRange() {
        countsOutOfRange(Koebehall::countAnew);
    }

    // Promise 18: "Throws `IllegalStateException` if it is not bounded"
    private static void countAnewOfNoBoundedGasket() {
        countsOfStrips(Koebehall::countAnew);
    }

    // Promise 18, Terms: "If several apply, the one that the throws clause names first is thrown."
    private static void countAnewTellsInOrder() {
        countsInOrder(Koebehall::countAnew);
    }

    // Promise 18: "Counts the same, found from three circles that touch and the one between them"
    private static void countAnewAtMostTheBound() {
        countsUpTo(Koebehall::countAnew);
    }

    // Promises 17 and 18, Terms: "They are counted by their rows; of several that are alike in curvature each counts."
    private static void countOfAlikeCurvatures() {
        counted("both 2", 3, GasketsBoundsTest::one, 2);
        counted("3, and 3 that it is turned to", 5, GasketsBoundsTest::one, 3);
        counted("four times 6", 9, GasketsBoundsTest::one, 6);
        counted("the turns that were told do not count", 9, () -> turned(GasketsBoundsTest::one, "30120"), 6);
    }

    // Promises 17 and 18, Terms: "Its circles are the four of the root, those with a curvature of 0 or below with them"
    private static void countOfARootAboveTheBound() {
        counted("that below 0 alone", 1, of(-1000, 2000, 2000, 3000), 1000);
        counted("that below 0 alone", 1, of(-500, 1000, 1000, 1500), 999);
        counted("two at the bound", 3, of(-500, 1000, 1000, 1500), 1000);
        counted("all of the root but one", 3, of(-333, 666, 666, 999), 998);
        counted("all of the root, and one that is alike", 5, of(-333, 666, 666, 999), 999);
    }

    // Promise 19: "- `gasket`: its number"
    private static void remaindersGaskets() {
        Bounds.due("the first", 3, GasketsBoundsTest::eight, x -> x.remainders(0, 2));
        Bounds.due("the last", 3, GasketsBoundsTest::eight, x -> x.remainders(7, 2));
        Bounds.noIndex("below the first", GasketsBoundsTest::eight, x -> x.remainders(-1, 2));
        Bounds.noIndex("above the last", GasketsBoundsTest::eight, x -> x.remainders(8, 2));
    }

    // Promise 19: "- `by`: 2 to 8"
    private static void remaindersBys() {
        int[] dues = {3, 5, 12, 31, 45, 127, 204};
        int[] ofStrip = {3, 3, 3, 31, 27, 127, 19};
        for (int by = 2; by <= 8; by++) {
            int asked = by;
            Bounds.due("by " + asked, dues[asked - 2], GasketsBoundsTest::one, x -> x.remainders(0, asked));
            Bounds.due("of a strip, by " + asked, ofStrip[asked - 2], of(0, 0, 1, 1), x -> x.remainders(0, asked));
        }
        Bounds.noArgument("below the least", GasketsBoundsTest::one, x -> x.remainders(0, 1));
        Bounds.noArgument("above the greatest", GasketsBoundsTest::one, x -> x.remainders(0, 9));
    }

    // Promise 19: "Throws `IndexOutOfBoundsException` if there is no such gasket"
    private static void remaindersNoSuchGasket() {
        Bounds.noIndex("none yet", Bounds::fresh, x -> x.remainders(0, 2));
        for (int gasket : new int[] {-1, 1, 7, 8, LEAST, MOST}) {
            Bounds.noIndex("remainders(" + gasket + ", 2)", GasketsBoundsTest::one, x -> x.remainders(gasket, 2));
        }
        Bounds.due("the last of 8", 3, GasketsBoundsTest::eight, x -> x.remainders(7, 2));
        Bounds.noIndex("one beyond 8", GasketsBoundsTest::eight, x -> x.remainders(8, 2));
    }

    // Promise 19: "Throws `IllegalArgumentException` if by is out of range"
    private static void remaindersByOutOfRange() {
        for (int by : new int[] {1, 0, -1, 9, LEAST, MOST}) {
            Bounds.noArgument("remainders(0, " + by + ")", GasketsBoundsTest::one, x -> x.remainders(0, by));
        }
    }

    // Promise 19, Terms: "If several apply, the one that the throws clause names first is thrown."
    private static void remaindersTellTheGasketFirst() {
        for (int by : new int[] {1, 0, -1, 9, LEAST, MOST}) {
            Bounds.noIndex("none yet, by " + by, Bounds::fresh, x -> x.remainders(0, by));
            Bounds.noIndex("no gasket 1, by " + by, GasketsBoundsTest::one, x -> x.remainders(1, by));
        }
    }

    // Promise 19: "Returns the set of remainders, not below 0: bit k for k."
    private static void remaindersBelowZero() {
        Bounds.due("-1 by 8 is 7 and not -1", 1 << 2 | 1 << 3 | 1 << 6 | 1 << 7, GasketsBoundsTest::one,
                x -> x.remainders(0, 8));
        Bounds.due("all of 0", 1, of(0, 0, 8, 8), x -> x.remainders(0, 8));
        Bounds.due("-8 by 8 is 0", 1, of(-8, 16, 16, 24), x -> x.remainders(0, 8));
        Bounds.due("by 7", 127, GasketsBoundsTest::one, x -> x.remainders(0, 7));
        Bounds.due("by 5", 31, GasketsBoundsTest::one, x -> x.remainders(0, 5));
    }

    // Promise 19: "Returns the remainders by a number that curvatures can have, as they are and by whatever turns, at
    // whatever places."
    private static void remaindersAsTheyAre() {
        Bounds.due("0, and 1 that all turns leave", 1 << 0 | 1 << 1, of(0, 0, 1, 1), x -> x.remainders(0, 2));
        Bounds.due("at the most, where no turn goes on", 1, GasketsBoundsTest::atTheMost, x -> x.remainders(0, 8));
        Bounds.due("turned far", 204, () -> turned(GasketsBoundsTest::one, "0123012301230123"), x -> x.remainders(0, 8));
    }
}
