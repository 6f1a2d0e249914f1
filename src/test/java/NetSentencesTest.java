import java.util.ArrayList;
import java.util.Arrays;
import java.util.List;
import java.util.TreeSet;

/** Promises 1 to 11 as their sentences say what a call is for; each test is headed by the sentence that it is of. */
public final class NetSentencesTest {
    private static final int NONE = Koebehall.NONE;
    private static final int BILLION = 1000000000;

    public static void main(String[] args) {
        netsOfTrianglesThatDisksDraw();
        cornersOfOneFaceAreNeighbours();
        splitSplitsAFace();
        splitOfAllFaces();
        cornerOfAFace();
        cornerReturnsTheCorner();
        neighbourOfACorner();
        countsInTheNet();
        tellsADisk();
        tellsADiskAnew();
        tellsHowTwoDisksLie();
        countsPairsThatLieSo();
        drawsReturnsWhetherTheyDo();
        Check.end();
    }

    private static Koebehall four() {
        Koebehall x = new Koebehall();
        x.disk(0, 0, 23);
        x.disk(69, 0, 46);
        x.disk(0, 92, 69);
        x.disk(21, 20, 6);
        return x;
    }

    /** A net of nine corners, some of its edges flipped. */
    private static Koebehall nine() {
        Koebehall x = new Koebehall();
        for (int face : new int[] {0, 4, 2, 6, 1}) {
            x.split(face);
        }
        x.flip(0, 1);
        x.flip(1, 2);
        return x;
    }

    private static int[] face(Koebehall x, int face) {
        return new int[] {x.corner(face, 0), x.corner(face, 1), x.corner(face, 2)};
    }

    private static List<int[]> faces(Koebehall x) {
        List<int[]> found = new ArrayList<>();
        for (int at = 0; at < x.net(2); at++) {
            found.add(face(x, at));
        }
        return found;
    }

    private static TreeSet<Integer> around(Koebehall x, int corner) {
        TreeSet<Integer> found = new TreeSet<>();
        for (int place = 0; x.around(corner, place) != NONE; place++) {
            found.add(x.around(corner, place));
        }
        return found;
    }

    /** What the faces say of the neighbours of a corner. */
    private static TreeSet<Integer> besideInFaces(List<int[]> faces, int corner) {
        TreeSet<Integer> found = new TreeSet<>();
        for (int[] face : faces) {
            if (Arrays.stream(face).anyMatch(one -> one == corner)) {
                Arrays.stream(face).filter(one -> one != corner).forEach(found::add);
            }
        }
        return found;
    }

    private static void faceIs(String what, Koebehall x, int face, int... due) {
        for (int place = 0; place < 3; place++) {
            int at = place;
            Check.due(what + ": corner(" + face + ", " + at + ")", due[at], () -> x.corner(face, at));
        }
    }

    // What it is: "A hall of circles that touch: nets of triangles that are split and flipped, disks in whole numbers
    // that draw them, gaskets whose curvatures are whole by moves of four, circles of fractions, words of moves that keep
    // fractions apart, and rectangles of squares that come of networks."
    private static void netsOfTrianglesThatDisksDraw() {
        Koebehall x = four();
        Check.holds("four circles that touch draw the net", () -> x.draws());
        x.split(0);
        Check.holdsNot("split, it is drawn no more", () -> x.draws());
        Koebehall y = new Koebehall();
        y.split(0);
        int[][] disks = {{285, 0, 285}, {0, 380, 190}, {0, 152, 38}, {-285, 0, 285}, {45, 180, 15}};
        for (int[] one : disks) {
            y.disk(one[0], one[1], one[2]);
        }
        Check.holds("a net that is split is drawn", () -> y.draws());
        y.flip(1, 2);
        Check.holdsNot("flipped, it is drawn no more", () -> y.draws());
        y.flip(3, 4);
        Check.holds("flipped back, it is drawn", () -> y.draws());
    }

    // Promises 2 to 6, Terms: "Two corners of one face are neighbours, joined by an edge."
    private static void cornersOfOneFaceAreNeighbours() {
        for (Bounds.Maker maker : new Bounds.Maker[] {Bounds::fresh, NetSentencesTest::nine}) {
            Koebehall x = maker.made();
            List<int[]> faces = faces(x);
            int ends = 0;
            for (int corner = 0; corner < x.net(0); corner++) {
                TreeSet<Integer> due = besideInFaces(faces, corner);
                TreeSet<Integer> got = around(x, corner);
                int at = corner;
                Check.holds("around " + at + " are " + got + ", due is " + due + ":", () -> due.equals(got));
                ends += due.size();
            }
            int due = ends / 2;
            Check.due("an edge for each two neighbours", due, () -> x.net(1));
        }
        Koebehall x = nine();
        for (int corner = 0; corner < 9; corner++) {
            for (int other = 0; other < 9; other++) {
                int a = corner;
                int b = other;
                if (a != b && !around(x, a).contains(b)) {
                    Bounds.noState(a + " and " + b + " share no face", NetSentencesTest::nine, y -> y.flip(a, b));
                }
            }
        }
    }

    // Promise 2: "Splits a face."
    private static void splitSplitsAFace() {
        Koebehall x = new Koebehall();
        x.split(1);
        faceIs("another one is as it was", x, 0, 0, 1, 2);
        faceIs("what is left of it", x, 1, 0, 3, 4);
        faceIs("another one is as it was", x, 2, 1, 3, 2);
        faceIs("another one is as it was", x, 3, 0, 2, 3);
        faceIs("the first one that comes of it", x, 4, 1, 4, 3);
        faceIs("the second one that comes of it", x, 5, 0, 4, 1);
        Check.noIndex("no third one", () -> x.corner(6, 0));
    }

    // Promise 2: "Splits a face."
    private static void splitOfAllFaces() {
        int[] degrees = {6, 6, 6, 6, 3, 3, 3, 3};
        Koebehall x = new Koebehall();
        for (int face = 0; face < 4; face++) {
            int at = face;
            Check.due("split(" + at + ")", 4 + at, () -> x.split(at));
        }
        for (int corner = 0; corner < 8; corner++) {
            int at = corner;
            Check.due("neighbours of " + at, degrees[at], () -> around(x, at).size());
            Check.holdsNot("no new one is beside a new one", () -> at > 3 && around(x, at).last() > 3);
        }
    }

    // Promise 4: "Returns a corner of a face."
    private static void cornerOfAFace() {
        int[][] dues = {{0, 1, 2}, {0, 3, 1}, {1, 3, 2}, {0, 2, 3}};
        for (int face = 0; face < 4; face++) {
            int at = face;
            Check.holds("the corners of " + at, () -> Arrays.equals(dues[at], face(new Koebehall(), at)));
        }
    }

    // Promise 4: "Returns the corner."
    private static void cornerReturnsTheCorner() {
        Koebehall x = nine();
        int[] named = new int[9];
        for (int[] face : faces(x)) {
            Check.holds("the lowest one comes first", () -> face[0] < face[1] && face[0] < face[2]);
            Check.holds("three corners", () -> face[1] != face[2]);
            for (int corner : face) {
                named[corner]++;
            }
        }
        for (int corner = 0; corner < 9; corner++) {
            int at = corner;
            Check.due("as many faces name " + at + " as there are around it", around(x, at).size(), () -> named[at]);
        }
    }

    // Promise 5: "Returns a neighbour of a corner."
    private static void neighbourOfACorner() {
        Koebehall x = nine();
        List<int[]> faces = faces(x);
        for (int corner = 0; corner < 9; corner++) {
            int many = around(x, corner).size();
            for (int place = 0; place < many; place++) {
                int a = corner;
                int n = x.around(a, place);
                int next = x.around(a, (place + 1) % many);
                Check.holds(a + ", " + n + ", " + next + " is a face, in this order", () -> isNamed(faces, a, n, next));
            }
        }
    }

    private static boolean isNamed(List<int[]> faces, int a, int b, int c) {
        for (int[] face : faces) {
            for (int at = 0; at < 3; at++) {
                if (face[at] == a && face[(at + 1) % 3] == b && face[(at + 2) % 3] == c) {
                    return true;
                }
            }
        }
        return false;
    }

    // Promise 6: "Counts in the net."
    private static void countsInTheNet() {
        Koebehall x = nine();
        Check.due("corners", 9, () -> x.net(0));
        Check.due("edges", 21, () -> x.net(1));
        Check.due("faces", 14, () -> x.net(2));
        int most = 0;
        int flippable = 0;
        for (int corner = 0; corner < 9; corner++) {
            TreeSet<Integer> others = around(x, corner);
            most = Math.max(most, others.size());
            for (int other : others) {
                flippable += corner < other && canFlip(corner, other) ? 1 : 0;
            }
        }
        int dueFlippable = flippable;
        int dueMost = most;
        Check.holds("some can be flipped and some cannot", () -> dueFlippable > 0 && dueFlippable < 21);
        Check.due("edges that can be flipped", dueFlippable, () -> x.net(3));
        Check.due("the most neighbours", dueMost, () -> x.net(4));
    }

    private static boolean canFlip(int corner, int other) {
        try {
            return nine().flip(corner, other) >= 0;
        } catch (IllegalStateException cannot) {
            return false;
        }
    }

    // Promise 7: "Tells a disk."
    private static void tellsADisk() {
        Koebehall x = new Koebehall();
        Check.due("the first", 0, () -> x.disk(-3, 4, 5));
        Check.due("the second", 1, () -> x.disk(-3, 12, 3));
        Check.due("it lies where it was told", Koebehall.TOUCH, () -> x.lie(0, 1));
        Check.due("its radius is as told", 5, () -> x.move(0, -3, 4, 5));
        Check.due("the other one's, too", 3, () -> x.move(1, -3, 12, 3));
        Check.due("two alike are two", 2, () -> x.disk(-3, 4, 5));
        Check.due("which overlap", Koebehall.OVERLAP, () -> x.lie(0, 2));
    }

    // Promise 8: "Tells a disk anew."
    private static void tellsADiskAnew() {
        Koebehall x = new Koebehall();
        x.disk(0, 0, 1);
        x.disk(10, 0, 2);
        x.disk(0, 10, 3);
        Check.due("the radius before", 2, () -> x.move(1, 0, -7, 6));
        Check.due("it touches now", Koebehall.TOUCH, () -> x.lie(0, 1));
        Check.due("the others are as they were", Koebehall.APART, () -> x.lie(0, 2));
        Check.due("told once more", 6, () -> x.move(1, -3, 0, 2));
        Check.due("no more of them", 3, () -> x.pairs(0) + x.pairs(1) + x.pairs(2));
        Check.due("the next number", 3, () -> x.disk(0, 0, 1));
    }

    private static final int[][] ROW = {{0, 0, 5}, {10, 0, 5}, {13, 4, 1}, {0, 0, 1}, {BILLION, 0, 999999985}, {-3, -4, 3}};

    private static Koebehall row() {
        Koebehall x = new Koebehall();
        for (int[] one : ROW) {
            x.disk(one[0], one[1], one[2]);
        }
        return x;
    }

    private static int howTheyLie(int[] one, int[] other) {
        long wide = (long) one[0] - other[0];
        long high = (long) one[1] - other[1];
        long reach = (long) one[2] + other[2];
        return Integer.signum(Long.compare(reach * reach, wide * wide + high * high)) + 1;
    }

    // Promise 9: "Tells how two disks lie."
    private static void tellsHowTwoDisksLie() {
        Check.dueLong("the model has them apart", Koebehall.APART, howTheyLie(ROW[1], ROW[3]));
        Check.dueLong("the model has them touch", Koebehall.TOUCH, howTheyLie(ROW[0], ROW[1]));
        Check.dueLong("the model has them overlap", Koebehall.OVERLAP, howTheyLie(ROW[0], ROW[3]));
        Koebehall x = row();
        for (int disk = 0; disk < ROW.length; disk++) {
            for (int other = 0; other < ROW.length; other++) {
                int a = disk;
                int b = other;
                if (a != b) {
                    Check.due("lie(" + a + ", " + b + ")", howTheyLie(ROW[a], ROW[b]), () -> x.lie(a, b));
                }
            }
        }
    }

    // Promise 10: "Counts pairs of disks that lie so."
    private static void countsPairsThatLieSo() {
        Koebehall x = row();
        int[] due = new int[3];
        for (int other = 1; other < ROW.length; other++) {
            for (int disk = 0; disk < other; disk++) {
                due[x.lie(disk, other)]++;
            }
        }
        for (int how = 0; how < 3; how++) {
            int at = how;
            Check.holds("some lie so: " + at, () -> due[at] > 0);
            Check.due("pairs(" + at + ")", due[at], () -> x.pairs(at));
        }
    }

    // Promise 11: "Returns whether they do."
    private static void drawsReturnsWhetherTheyDo() {
        Koebehall x = four();
        Check.holds("they do", () -> x.draws());
        for (int disk = 0; disk < 4; disk++) {
            int at = disk;
            int before = x.move(at, 500, 500, 1);
            Check.holdsNot("one is elsewhere", () -> x.draws());
            int[][] places = {{0, 0}, {69, 0}, {0, 92}, {21, 20}};
            x.move(at, places[at][0], places[at][1], before);
            Check.holds("they do again", () -> x.draws());
        }
    }
}
