/** Promises 1 to 6 where they end; each test is headed by the sentence that it is of. */
public final class NetBoundsTest {
    private static final int MOST = Integer.MAX_VALUE;
    private static final int LEAST = Integer.MIN_VALUE;

    public static void main(String[] args) {
        newObjectHasFourCorners();
        newObjectHasNothingElse();
        netAtFirst();
        cornersAreAtMostSixteen();
        splitFaces();
        splitNoSuchFace();
        splitReturnsTheNewCorner();
        splitOfSixteen();
        splitTellsTheFaceFirst();
        refusedSplitTakesNoNumber();
        splitGoesFromTheLowest();
        netIsASphere();
        edgesLieInTwoFaces();
        flipNoSuchCorner();
        flipOfAFullNet();
        flipOfNoNeighbours();
        flipThatCannotBeDone();
        flipTellsTheCornerFirst();
        refusedFlipFlipsNothing();
        flipReturnsTheLesserFirst();
        flipNamesBothFaces();
        flipA();
        flipB();
        cornerFaces();
        cornerPlaces();
        cornerNoSuchFace();
        cornerNoSuchPlace();
        aroundCorners();
        aroundPlaces();
        aroundNoneBehindTheLast();
        aroundNoSuchCorner();
        aroundPlaceBelowZero();
        aroundBeginsWithTheLowest();
        netWhats();
        netOfAFullNet();
        netOutOfRange();
        Check.end();
    }

    /** Split again and again, the face 0 keeps the corners 0 and 1, so that these have all others around them. */
    private static Koebehall splitTo(int corners) {
        Koebehall x = new Koebehall();
        for (int corner = 4; corner < corners; corner++) {
            x.split(0);
        }
        return x;
    }

    private static Koebehall five() {
        return splitTo(5);
    }

    private static Koebehall fifteen() {
        return splitTo(15);
    }

    private static Koebehall full() {
        return splitTo(16);
    }

    private static void face(String when, Bounds.Maker maker, int face, int a, int b, int c) {
        Bounds.due(when + ": corner(" + face + ", 0)", a, maker, x -> x.corner(face, 0));
        Bounds.due(when + ": corner(" + face + ", 1)", b, maker, x -> x.corner(face, 1));
        Bounds.due(when + ": corner(" + face + ", 2)", c, maker, x -> x.corner(face, 2));
    }

    private static void around(String when, Bounds.Maker maker, int corner, int... due) {
        for (int place = 0; place < due.length; place++) {
            int at = place;
            Bounds.due(when + ": around(" + corner + ", " + at + ")", due[at], maker, x -> x.around(corner, at));
        }
        Bounds.due(when + ": behind the last", Koebehall.NONE, maker, x -> x.around(corner, due.length));
    }

    // Promise 1: "The net of four corners; nothing else."
    private static void newObjectHasFourCorners() {
        Bounds.due("corners", 4, Bounds::fresh, x -> x.net(0));
        Bounds.due("edges", 6, Bounds::fresh, x -> x.net(1));
        Bounds.due("faces", 4, Bounds::fresh, x -> x.net(2));
        Bounds.noIndex("no corner 4", Bounds::fresh, x -> x.around(4, 0));
        Bounds.noIndex("no face 4", Bounds::fresh, x -> x.corner(4, 0));
    }

    // Promise 1: "The net of four corners; nothing else."
    private static void newObjectHasNothingElse() {
        Bounds.noIndex("no disk", Bounds::fresh, x -> x.lie(0, 0));
        Bounds.noIndex("no gasket", Bounds::fresh, x -> x.root(0, 0));
        Bounds.noIndex("no move", Bounds::fresh, x -> x.append(0, false));
        Bounds.due("no move appended", 2, Bounds::fresh, x -> x.home());
        Bounds.noIndex("no wire", Bounds::fresh, x -> x.side(0, 1, 0));
        Bounds.due("two nodes", 2, Bounds::fresh, x -> x.nodes(6));
    }

    // Promise 1, Terms: "At first it has the corners 0 to 3, and the faces 0: 0, 1, 2; 1: 0, 3, 1; 2: 1, 3, 2; 3: 0, 2,
    // 3."
    private static void netAtFirst() {
        face("at first", Bounds::fresh, 0, 0, 1, 2);
        face("at first", Bounds::fresh, 1, 0, 3, 1);
        face("at first", Bounds::fresh, 2, 1, 3, 2);
        face("at first", Bounds::fresh, 3, 0, 2, 3);
    }

    // Promise 2, Terms: "At most 16 corners are there."
    private static void cornersAreAtMostSixteen() {
        Bounds.due("fifteen", 15, NetBoundsTest::fifteen, x -> x.net(0));
        Bounds.due("sixteen", 16, NetBoundsTest::full, x -> x.net(0));
        Bounds.noState("a seventeenth", NetBoundsTest::full, x -> x.split(5));
    }

    // Promise 2: "- `face`: its number"
    private static void splitFaces() {
        Bounds.due("the first face", 4, Bounds::fresh, x -> x.split(0));
        Bounds.due("the last face", 4, Bounds::fresh, x -> x.split(3));
        Bounds.due("the first of 26", 15, NetBoundsTest::fifteen, x -> x.split(0));
        Bounds.due("the last of 26", 15, NetBoundsTest::fifteen, x -> x.split(25));
    }

    // Promise 2: "Throws `IndexOutOfBoundsException` if there is no such face"
    private static void splitNoSuchFace() {
        for (int face : new int[] {-1, 4, LEAST, MOST}) {
            Bounds.noIndex("split(" + face + ") of 4", Bounds::fresh, x -> x.split(face));
        }
        for (int face : new int[] {-1, 26, 27}) {
            Bounds.noIndex("split(" + face + ") of 26", NetBoundsTest::fifteen, x -> x.split(face));
        }
    }

    // Promise 2: "Returns the number of the new corner."
    private static void splitReturnsTheNewCorner() {
        Bounds.due("the first new one", 4, Bounds::fresh, x -> x.split(1));
        Bounds.due("the second new one", 5, NetBoundsTest::five, x -> x.split(1));
        Bounds.due("the last new one", 15, NetBoundsTest::fifteen, x -> x.split(1));
    }

    // Promise 2: "Throws `IllegalStateException` if there are 16 corners"
    private static void splitOfSixteen() {
        Bounds.due("there are 15", 15, NetBoundsTest::fifteen, x -> x.split(25));
        Bounds.noState("the first face of 16", NetBoundsTest::full, x -> x.split(0));
        Bounds.noState("the last face of 16", NetBoundsTest::full, x -> x.split(27));
    }

    // Promise 2, Terms: "If several apply, the one that the throws clause names first is thrown."
    private static void splitTellsTheFaceFirst() {
        for (int face : new int[] {-1, 28, LEAST, MOST}) {
            Bounds.noIndex("split(" + face + ") of a full net", NetBoundsTest::full, x -> x.split(face));
        }
    }

    // Promise 2, Terms: "A call that throws an exception changes nothing."
    private static void refusedSplitTakesNoNumber() {
        Koebehall x = new Koebehall();
        Check.noIndex("no face 4", () -> x.split(4));
        Check.noIndex("no face -1", () -> x.split(-1));
        Check.due("the first new corner is still to come", 4, () -> x.split(3));
        Check.due("in the last of its faces", 5, () -> x.split(5));
        Koebehall y = full();
        Check.noState("there are 16", () -> y.split(27));
        Check.due("there are still 16", 16, () -> y.net(0));
        Check.due("there are still 28 faces", 28, () -> y.net(2));
        Check.noIndex("no new corner", () -> y.around(16, 0));
    }

    // Promise 2, Terms: "To split a face with the corners a, b, c, from its lowest one on, is to put a new corner, of
    // the next number, into it: the face becomes a, b and the new one; two new faces, of the next numbers, are b, c and
    // the new one, and c, a and the new one, in this order."
    private static void splitGoesFromTheLowest() {
        Bounds.Maker twice = () -> {
            Koebehall x = new Koebehall();
            x.split(2);
            x.split(4);
            return x;
        };
        face("1, 3, 2 split", twice, 2, 1, 3, 4);
        face("its third part", twice, 5, 1, 4, 2);
        face("3, 2, 4 split from 2 on", twice, 4, 2, 4, 5);
        face("its second part", twice, 6, 3, 5, 4);
        face("its third part", twice, 7, 2, 5, 3);
    }

    // Promise 6, Terms: "The net is a sphere of faces, each with three corners, named against the clock as it is seen
    // from outside."
    private static void netIsASphere() {
        for (int corners = 4; corners <= 16; corners++) {
            int many = corners;
            Bounds.due("corners less edges and faces", 2, () -> splitTo(many), x -> x.net(0) - x.net(1) + x.net(2));
            Bounds.due("three edges a face, two faces an edge", true, () -> splitTo(many), x -> 3 * x.net(2) == 2 * x.net(1));
        }
        Bounds.due("flipped", 2, NetBoundsTest::fullAndFlipped, x -> x.net(0) - x.net(1) + x.net(2));
    }

    /** How often the corner is named in a face with the other one behind it. */
    private static int facesOf(Koebehall x, int corner, int other) {
        int found = 0;
        for (int face = 0; face < x.net(2); face++) {
            for (int place = 0; place < 3; place++) {
                found += x.corner(face, place) == corner && x.corner(face, (place + 1) % 3) == other ? 1 : 0;
            }
        }
        return found;
    }

    // Promise 4, Terms: "The edge of two neighbours a and b lies in two faces: that in which b is named behind a, with
    // a third corner c, and the other one, with a third corner d."
    private static void edgesLieInTwoFaces() {
        String[] neighbours = {"23456", "23456", "0134", "0126", "0125", "0146", "0135"};
        Bounds.Maker seven = () -> {
            Koebehall x = splitTo(7);
            x.flip(0, 1);
            return x;
        };
        for (int corner = 0; corner < 7; corner++) {
            for (int other = 0; other < 7; other++) {
                int a = corner;
                int b = other;
                int due = neighbours[a].contains(String.valueOf(b)) ? 1 : 0;
                Bounds.due(a + " with " + b + " behind it", due, seven, x -> facesOf(x, a, b));
            }
        }
    }

    // Promise 3: "Throws `IndexOutOfBoundsException` if there is no such corner, of either"
    private static void flipNoSuchCorner() {
        for (int corner : new int[] {-1, 4, LEAST, MOST}) {
            Bounds.noIndex("flip(" + corner + ", 0)", Bounds::fresh, x -> x.flip(corner, 0));
            Bounds.noIndex("flip(0, " + corner + ")", Bounds::fresh, x -> x.flip(0, corner));
        }
        for (int corner : new int[] {-1, 16}) {
            Bounds.noIndex("flip(" + corner + ", 1) of 16", NetBoundsTest::full, x -> x.flip(corner, 1));
            Bounds.noIndex("flip(1, " + corner + ") of 16", NetBoundsTest::full, x -> x.flip(1, corner));
        }
    }

    private static Koebehall fullAndFlipped() {
        Koebehall x = full();
        x.flip(0, 1);
        return x;
    }

    // Promise 3: "- `corner`: a"
    private static void flipA() {
        Bounds.due("the least", 315, NetBoundsTest::full, x -> x.flip(0, 1));
        Bounds.due("the greatest", 1, NetBoundsTest::fullAndFlipped, x -> x.flip(15, 3));
        Bounds.noIndex("below the least", NetBoundsTest::fullAndFlipped, x -> x.flip(-1, 3));
        Bounds.noIndex("above the greatest", NetBoundsTest::fullAndFlipped, x -> x.flip(16, 3));
    }

    // Promise 3: "- `other`: b"
    private static void flipB() {
        Bounds.due("the least", 315, NetBoundsTest::full, x -> x.flip(1, 0));
        Bounds.due("the greatest", 1, NetBoundsTest::fullAndFlipped, x -> x.flip(3, 15));
        Bounds.noIndex("below the least", NetBoundsTest::fullAndFlipped, x -> x.flip(3, -1));
        Bounds.noIndex("above the greatest", NetBoundsTest::fullAndFlipped, x -> x.flip(3, 16));
    }

    // Promise 3: "Flips the edge of two neighbours, the second one being b."
    private static void flipOfAFullNet() {
        Bounds.due("sixteen corners are no hindrance", 315, NetBoundsTest::full, x -> x.flip(0, 1));
        Bounds.due("as many edges as before", 42, NetBoundsTest::fullAndFlipped, x -> x.net(1));
        Bounds.due("as many faces as before", 28, NetBoundsTest::fullAndFlipped, x -> x.net(2));
    }

    // Promise 3: "Throws `IllegalStateException` if they are no neighbours, or it cannot be done"
    private static void flipOfNoNeighbours() {
        Bounds.noState("3 and 4", NetBoundsTest::five, x -> x.flip(3, 4));
        Bounds.noState("4 and 3", NetBoundsTest::five, x -> x.flip(4, 3));
        for (int corner = 0; corner < 4; corner++) {
            int at = corner;
            Bounds.noState("a corner and itself", Bounds::fresh, x -> x.flip(at, at));
        }
        Bounds.noState("the first and the last of 16", NetBoundsTest::full, x -> x.flip(2, 15));
    }

    // Promise 3, Terms: "To flip it, which can be done if c and d are no neighbours, is this: the former becomes a, d,
    // c, the other one d, b, c."
    private static void flipThatCannotBeDone() {
        for (int corner = 0; corner < 4; corner++) {
            for (int other = 0; other < 4; other++) {
                int a = corner;
                int b = other;
                if (a != b) {
                    Bounds.noState("flip(" + a + ", " + b + ") of four", Bounds::fresh, x -> x.flip(a, b));
                }
            }
        }
        for (int corner = 0; corner < 3; corner++) {
            int at = corner;
            Bounds.noState("a corner of three edges", NetBoundsTest::five, x -> x.flip(at, 4));
            Bounds.noState("a corner of three edges", NetBoundsTest::five, x -> x.flip(3, at));
            Bounds.due("between both", 304, NetBoundsTest::five, x -> x.flip(at, (at + 1) % 3));
        }
    }

    // Promise 3, Terms: "If several apply, the one that the throws clause names first is thrown."
    private static void flipTellsTheCornerFirst() {
        Bounds.noIndex("no corner, and the same", Bounds::fresh, x -> x.flip(4, 4));
        Bounds.noIndex("no corner, and the same", Bounds::fresh, x -> x.flip(-1, -1));
        Bounds.noIndex("no corner, and so no neighbour", NetBoundsTest::full, x -> x.flip(16, 16));
    }

    // Promise 3, Terms: "A call that throws an exception changes nothing."
    private static void refusedFlipFlipsNothing() {
        Koebehall x = five();
        Check.noState("3 and 4 are no neighbours", () -> x.flip(3, 4));
        Check.noState("0 and 4 cannot be flipped", () -> x.flip(0, 4));
        Check.noIndex("no corner 5", () -> x.flip(0, 5));
        Check.due("0 and 1 still are neighbours", 304, () -> x.flip(0, 1));
        Check.noState("0 and 1 are not any more", () -> x.flip(0, 1));
        Check.due("3 and 4 still are neighbours", 1, () -> x.flip(3, 4));
    }

    // Promise 3: "Returns 100 times the lesser one of both that are neighbours then, and the greater one, together."
    private static void flipReturnsTheLesserFirst() {
        Bounds.Maker greatest = () -> {
            Koebehall x = splitTo(15);
            x.split(1);
            return x;
        };
        Bounds.due("the greatest that there is", 1415, greatest, x -> x.flip(0, 1));
        Bounds.due("the greatest that there is", 1415, greatest, x -> x.flip(1, 0));
        Bounds.Maker flipped = () -> {
            Koebehall x = five();
            x.flip(2, 0);
            return x;
        };
        Bounds.due("the lesser one is 0", 2, flipped, x -> x.flip(3, 4));
        Bounds.due("the lesser one is 0", 2, flipped, x -> x.flip(4, 3));
    }

    // Promise 3, Terms: "To flip it, which can be done if c and d are no neighbours, is this: the former becomes a, d,
    // c, the other one d, b, c."
    private static void flipNamesBothFaces() {
        for (int end = 0; end < 2; end++) {
            int a = end;
            Bounds.Maker flipped = () -> {
                Koebehall x = five();
                x.flip(a, 1 - a);
                return x;
            };
            face("flipped from " + a, flipped, 0, 0, 3, 4);
            face("flipped from " + a, flipped, 1, 1, 4, 3);
            // Both faces then begin with what is named last, or in the middle.
            Bounds.Maker back = () -> {
                Koebehall x = flipped.made();
                x.flip(3 + a, 4 - a);
                return x;
            };
            face("flipped back from " + (3 + a), back, 0, 0, 3, 1);
            face("flipped back from " + (3 + a), back, 1, 0, 1, 4);
            Bounds.noState("no neighbours any more", flipped, x -> x.flip(0, 1));
            Bounds.due("no face more", 6, flipped, x -> x.net(2));
        }
    }

    // Promise 4: "- `face`: its number"
    private static void cornerFaces() {
        Bounds.due("the first", 1, NetBoundsTest::five, x -> x.corner(0, 1));
        Bounds.due("the last", 4, NetBoundsTest::five, x -> x.corner(5, 1));
        Bounds.noIndex("below the first", NetBoundsTest::five, x -> x.corner(-1, 1));
        Bounds.noIndex("above the last", NetBoundsTest::five, x -> x.corner(6, 1));
    }

    // Promise 4: "- `place`: 0 to 2: 0 for the lowest one, 1 for that behind it, 2 for the last one"
    private static void cornerPlaces() {
        face("the first face", Bounds::fresh, 0, 0, 1, 2);
        face("the last face", Bounds::fresh, 3, 0, 2, 3);
        face("the first face of 28", NetBoundsTest::full, 0, 0, 1, 15);
        face("the last face of 28", NetBoundsTest::full, 27, 0, 15, 14);
        face("the lowest one was not named first", NetBoundsTest::five, 5, 0, 4, 2);
    }

    // Promise 4: "Throws `IndexOutOfBoundsException` if there is no such face or place"
    private static void cornerNoSuchFace() {
        for (int face : new int[] {-1, 4, LEAST, MOST}) {
            Bounds.noIndex("corner(" + face + ", 0)", Bounds::fresh, x -> x.corner(face, 0));
            Bounds.noIndex("corner(" + face + ", 2)", Bounds::fresh, x -> x.corner(face, 2));
        }
        Bounds.noIndex("corner(6, 0) of 5", NetBoundsTest::five, x -> x.corner(6, 0));
        Bounds.noIndex("corner(28, 0) of 16", NetBoundsTest::full, x -> x.corner(28, 0));
    }

    // Promise 4: "Throws `IndexOutOfBoundsException` if there is no such face or place"
    private static void cornerNoSuchPlace() {
        for (int place : new int[] {-1, 3, LEAST, MOST}) {
            Bounds.noIndex("corner(0, " + place + ")", Bounds::fresh, x -> x.corner(0, place));
            Bounds.noIndex("corner(3, " + place + ")", Bounds::fresh, x -> x.corner(3, place));
            Bounds.noIndex("corner(4, " + place + ")", Bounds::fresh, x -> x.corner(4, place));
        }
    }

    // Promise 5: "- `corner`: its number"
    private static void aroundCorners() {
        Bounds.due("the first", 4, NetBoundsTest::five, x -> x.around(0, 1));
        Bounds.due("the last", 1, NetBoundsTest::five, x -> x.around(4, 1));
        Bounds.noIndex("below the first", NetBoundsTest::five, x -> x.around(-1, 1));
        Bounds.noIndex("above the last", NetBoundsTest::five, x -> x.around(5, 1));
    }

    // Promise 5: "- `place`: from 0 on: the place among the corners around it"
    private static void aroundPlaces() {
        Bounds.due("the first", 0, Bounds::fresh, x -> x.around(3, 0));
        Bounds.due("the last", 1, Bounds::fresh, x -> x.around(3, 2));
        Bounds.due("the first beyond does not begin anew", Koebehall.NONE, Bounds::fresh, x -> x.around(3, 3));
        Bounds.noIndex("below the first", Bounds::fresh, x -> x.around(3, -1));
    }

    // Promise 5: "Returns the neighbour; NONE if there are not so many."
    private static void aroundNoneBehindTheLast() {
        Bounds.due("the last of three", 3, Bounds::fresh, x -> x.around(0, 2));
        Bounds.due("a fourth of three", Koebehall.NONE, Bounds::fresh, x -> x.around(0, 3));
        Bounds.due("a seventh of three", Koebehall.NONE, Bounds::fresh, x -> x.around(0, 6));
        Bounds.due("the last of 15", 3, NetBoundsTest::full, x -> x.around(0, 14));
        Bounds.due("a sixteenth of 15", Koebehall.NONE, NetBoundsTest::full, x -> x.around(0, 15));
        Bounds.due("the greatest place", Koebehall.NONE, Bounds::fresh, x -> x.around(3, MOST));
        Bounds.due("the greatest place", Koebehall.NONE, NetBoundsTest::full, x -> x.around(0, MOST));
    }

    // Promise 5: "Throws `IndexOutOfBoundsException` if there is no such corner, or place is below 0"
    private static void aroundNoSuchCorner() {
        for (int corner : new int[] {-1, 4, LEAST, MOST}) {
            Bounds.noIndex("around(" + corner + ", 0)", Bounds::fresh, x -> x.around(corner, 0));
            Bounds.noIndex("around(" + corner + ", -1)", Bounds::fresh, x -> x.around(corner, -1));
        }
        Bounds.due("the last corner", 0, NetBoundsTest::full, x -> x.around(15, 0));
        Bounds.noIndex("one beyond the last corner", NetBoundsTest::full, x -> x.around(16, 0));
    }

    // Promise 5: "Throws `IndexOutOfBoundsException` if there is no such corner, or place is below 0"
    private static void aroundPlaceBelowZero() {
        Bounds.due("place 0", 1, Bounds::fresh, x -> x.around(0, 0));
        Bounds.noIndex("place -1", Bounds::fresh, x -> x.around(0, -1));
        Bounds.noIndex("the least place", Bounds::fresh, x -> x.around(3, LEAST));
        Bounds.noIndex("place -1 of the last corner", NetBoundsTest::full, x -> x.around(15, -1));
    }

    // Promise 5, Terms: "The corners around one are its neighbours against the clock: behind a neighbour n comes the
    // corner named behind n in the face in which n is named behind that one; they begin with the lowest."
    private static void aroundBeginsWithTheLowest() {
        around("at first", Bounds::fresh, 0, 1, 2, 3);
        around("at first", Bounds::fresh, 1, 0, 3, 2);
        around("at first", Bounds::fresh, 2, 0, 1, 3);
        around("at first", Bounds::fresh, 3, 0, 2, 1);
        around("five", NetBoundsTest::five, 0, 1, 4, 2, 3);
        around("five", NetBoundsTest::five, 4, 0, 1, 2);
        around("full", NetBoundsTest::full, 0, 1, 15, 14, 13, 12, 11, 10, 9, 8, 7, 6, 5, 4, 2, 3);
        around("full", NetBoundsTest::full, 1, 0, 3, 2, 4, 5, 6, 7, 8, 9, 10, 11, 12, 13, 14, 15);
        around("full", NetBoundsTest::full, 15, 0, 1, 14);
    }

    // Promise 6: "- `what`: 0 corners, 1 edges, 2 faces, 3 edges that can be flipped, 4 the most neighbours that a
    // corner has"
    private static void netWhats() {
        int[] atFirst = {4, 6, 4, 0, 3};
        int[] ofFive = {5, 9, 6, 3, 4};
        for (int what = 0; what < 5; what++) {
            int at = what;
            Bounds.due("net(" + at + ") at first", atFirst[at], Bounds::fresh, x -> x.net(at));
            Bounds.due("net(" + at + ") of five", ofFive[at], NetBoundsTest::five, x -> x.net(at));
        }
    }

    // Promise 6: "Returns how many."
    private static void netOfAFullNet() {
        int[] ofAll = {16, 42, 28, 25, 15};
        for (int what = 0; what < 5; what++) {
            int at = what;
            Bounds.due("net(" + at + ") of 16", ofAll[at], NetBoundsTest::full, x -> x.net(at));
        }
    }

    // Promise 6: "Throws `IndexOutOfBoundsException` if what is out of range"
    private static void netOutOfRange() {
        for (int what : new int[] {-1, 5, LEAST, MOST}) {
            Bounds.noIndex("net(" + what + ")", Bounds::fresh, x -> x.net(what));
            Bounds.noIndex("net(" + what + ") of 16", NetBoundsTest::full, x -> x.net(what));
        }
    }
}
