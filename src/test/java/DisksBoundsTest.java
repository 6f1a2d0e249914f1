/** Promises 7 to 11 where they end; each test is headed by the sentence that it is of. */
public final class DisksBoundsTest {
    private static final int BILLION = 1000000000;
    private static final int MOST = Integer.MAX_VALUE;
    private static final int LEAST = Integer.MIN_VALUE;
    private static final int[] BEYOND = {BILLION + 1, -BILLION - 1, MOST, LEAST};
    private static final int[] NO_RADIUS = {0, -1, BILLION + 1, MOST, LEAST};

    public static void main(String[] args) {
        disksAreAtMostSixteen();
        diskX();
        diskY();
        diskRadius();
        diskOutOfRange();
        diskReturnsItsNumber();
        diskOfSixteen();
        diskTellsTheArgumentFirst();
        refusedDiskTakesNoNumber();
        moveDisks();
        moveNoSuchDisk();
        moveX();
        moveY();
        moveRadius();
        moveOutOfRange();
        moveReturnsTheRadiusBefore();
        moveTellsTheDiskFirst();
        refusedMoveMovesNothing();
        lieOne();
        lieAnother();
        lieNoSuchDisk();
        lieOfTheSame();
        lieTellsTheDiskFirst();
        lieReturnsApartToOverlap();
        touchApartOverlap();
        lieAtTheEndsOfTheRanges();
        lieOneInTheOther();
        pairsHows();
        pairsOfFewDisks();
        pairsOfSixteen();
        pairsOutOfRange();
        drawsAsManyAsCorners();
        drawsWithAllApart();
        drawsSixteen();
        Check.end();
    }

    private static Koebehall rowOf(int many) {
        Koebehall x = new Koebehall();
        for (int disk = 0; disk < many; disk++) {
            x.disk(2 * disk, 0, 1);
        }
        return x;
    }

    /** Two that touch, so that a change of any number of one is seen. */
    private static Koebehall two() {
        return rowOf(2);
    }

    private static Koebehall fifteen() {
        return rowOf(15);
    }

    private static Koebehall full() {
        return rowOf(16);
    }

    private static Bounds.Maker pair(int[] one, int[] other) {
        return () -> {
            Koebehall x = new Koebehall();
            x.disk(one[0], one[1], one[2]);
            x.disk(other[0], other[1], other[2]);
            return x;
        };
    }

    private static void lies(String what, int due, int[] one, int[] other) {
        Bounds.due(what, due, pair(one, other), x -> x.lie(0, 1));
        Bounds.due(what + ", asked from the other", due, pair(one, other), x -> x.lie(1, 0));
        Bounds.due(what + ", as a pair", 1, pair(one, other), x -> x.pairs(due));
    }

    private static int[] at(int x, int y, int radius) {
        return new int[] {x, y, radius};
    }

    // Promise 7, Terms: "Disks are numbered from 0, at most 16, each with a middle x, y, and a radius."
    private static void disksAreAtMostSixteen() {
        Bounds.due("the first", 0, Bounds::fresh, x -> x.disk(0, 0, 1));
        Bounds.due("the sixteenth", 15, DisksBoundsTest::fifteen, x -> x.disk(0, 0, 1));
        Bounds.due("120 pairs of sixteen", 120, DisksBoundsTest::full, x -> x.pairs(0) + x.pairs(1) + x.pairs(2));
    }

    // Promise 7: "- `x`: -1000000000 to 1000000000"
    private static void diskX() {
        Bounds.due("the least", 0, Bounds::fresh, x -> x.disk(-BILLION, 0, 1));
        Bounds.due("the greatest", 0, Bounds::fresh, x -> x.disk(BILLION, 0, 1));
        Bounds.noArgument("below the least", DisksBoundsTest::two, x -> x.disk(-BILLION - 1, 0, 1));
        Bounds.noArgument("above the greatest", DisksBoundsTest::two, x -> x.disk(BILLION + 1, 0, 1));
    }

    // Promise 7: "- `y`: -1000000000 to 1000000000"
    private static void diskY() {
        Bounds.due("the least", 0, Bounds::fresh, x -> x.disk(0, -BILLION, 1));
        Bounds.due("the greatest", 0, Bounds::fresh, x -> x.disk(0, BILLION, 1));
        Bounds.noArgument("below the least", DisksBoundsTest::two, x -> x.disk(0, -BILLION - 1, 1));
        Bounds.noArgument("above the greatest", DisksBoundsTest::two, x -> x.disk(0, BILLION + 1, 1));
    }

    // Promise 7: "- `radius`: 1 to 1000000000"
    private static void diskRadius() {
        Bounds.due("the least", 0, Bounds::fresh, x -> x.disk(0, 0, 1));
        Bounds.due("the greatest", 0, Bounds::fresh, x -> x.disk(0, 0, BILLION));
        Bounds.noArgument("below the least", DisksBoundsTest::two, x -> x.disk(0, 0, 0));
        Bounds.noArgument("above the greatest", DisksBoundsTest::two, x -> x.disk(0, 0, BILLION + 1));
    }

    // Promise 7: "Throws `IllegalArgumentException` if an argument is out of range"
    private static void diskOutOfRange() {
        for (int beyond : BEYOND) {
            Bounds.noArgument("disk(" + beyond + ", 0, 1)", Bounds::fresh, x -> x.disk(beyond, 0, 1));
            Bounds.noArgument("disk(0, " + beyond + ", 1)", Bounds::fresh, x -> x.disk(0, beyond, 1));
            Bounds.noArgument("disk(" + beyond + ", " + beyond + ", 0)", Bounds::fresh, x -> x.disk(beyond, beyond, 0));
        }
        for (int beyond : NO_RADIUS) {
            Bounds.noArgument("disk(0, 0, " + beyond + ")", Bounds::fresh, x -> x.disk(0, 0, beyond));
        }
    }

    // Promise 7: "Returns its number."
    private static void diskReturnsItsNumber() {
        for (int many = 0; many < 16; many++) {
            int due = many;
            Bounds.due("behind " + due, due, () -> rowOf(due), x -> x.disk(0, 0, 1));
        }
    }

    // Promise 7: "Throws `IllegalStateException` if there are 16"
    private static void diskOfSixteen() {
        Bounds.due("there are 15", 15, DisksBoundsTest::fifteen, x -> x.disk(BILLION, BILLION, BILLION));
        Bounds.noState("there are 16", DisksBoundsTest::full, x -> x.disk(BILLION, BILLION, BILLION));
        Bounds.noState("there are 16", DisksBoundsTest::full, x -> x.disk(-BILLION, -BILLION, 1));
    }

    // Promise 7, Terms: "If several apply, the one that the throws clause names first is thrown."
    private static void diskTellsTheArgumentFirst() {
        Bounds.noArgument("x beyond, of 16", DisksBoundsTest::full, x -> x.disk(BILLION + 1, 0, 1));
        Bounds.noArgument("y beyond, of 16", DisksBoundsTest::full, x -> x.disk(0, -BILLION - 1, 1));
        Bounds.noArgument("radius 0, of 16", DisksBoundsTest::full, x -> x.disk(0, 0, 0));
        Bounds.noArgument("radius beyond, of 16", DisksBoundsTest::full, x -> x.disk(0, 0, BILLION + 1));
    }

    // Promise 7, Terms: "A call that throws an exception changes nothing."
    private static void refusedDiskTakesNoNumber() {
        Koebehall x = new Koebehall();
        Check.noArgument("radius 0", () -> x.disk(0, 0, 0));
        Check.due("the first is still to come", 0, () -> x.disk(0, 0, 1));
        Check.noArgument("x beyond", () -> x.disk(BILLION + 1, 0, 1));
        Check.due("the second is still to come", 1, () -> x.disk(0, 0, 1));
    }

    // Promise 8: "- `disk`: its number"
    private static void moveDisks() {
        Bounds.due("the first", 1, DisksBoundsTest::two, x -> x.move(0, 0, 0, 3));
        Bounds.due("the last", 1, DisksBoundsTest::two, x -> x.move(1, 0, 0, 3));
        Bounds.noIndex("below the first", DisksBoundsTest::two, x -> x.move(-1, 0, 0, 3));
        Bounds.noIndex("above the last", DisksBoundsTest::two, x -> x.move(2, 0, 0, 3));
    }

    // Promise 8: "Throws `IndexOutOfBoundsException` if there is no such disk"
    private static void moveNoSuchDisk() {
        Bounds.noIndex("none yet", Bounds::fresh, x -> x.move(0, 0, 0, 1));
        for (int disk : new int[] {-1, 2, 15, 16, LEAST, MOST}) {
            Bounds.noIndex("move(" + disk + ") of 2", DisksBoundsTest::two, x -> x.move(disk, 5, 5, 1));
        }
        Bounds.due("the first of 16", 1, DisksBoundsTest::full, x -> x.move(0, 5, 5, 2));
        Bounds.due("the last of 16", 1, DisksBoundsTest::full, x -> x.move(15, 5, 5, 2));
        Bounds.noIndex("one beyond 16", DisksBoundsTest::full, x -> x.move(16, 5, 5, 2));
    }

    // Promise 8: "- `x`: -1000000000 to 1000000000"
    private static void moveX() {
        Bounds.due("the least", 1, DisksBoundsTest::two, x -> x.move(0, -BILLION, 0, 1));
        Bounds.due("the greatest", 1, DisksBoundsTest::two, x -> x.move(1, BILLION, 0, 1));
        Bounds.noArgument("below the least", DisksBoundsTest::two, x -> x.move(0, -BILLION - 1, 0, 1));
        Bounds.noArgument("above the greatest", DisksBoundsTest::two, x -> x.move(0, BILLION + 1, 0, 1));
    }

    // Promise 8: "- `y`: -1000000000 to 1000000000"
    private static void moveY() {
        Bounds.due("the least", 1, DisksBoundsTest::two, x -> x.move(0, 0, -BILLION, 1));
        Bounds.due("the greatest", 1, DisksBoundsTest::two, x -> x.move(1, 0, BILLION, 1));
        Bounds.noArgument("below the least", DisksBoundsTest::two, x -> x.move(1, 2, -BILLION - 1, 1));
        Bounds.noArgument("above the greatest", DisksBoundsTest::two, x -> x.move(1, 2, BILLION + 1, 1));
    }

    // Promise 8: "- `radius`: 1 to 1000000000"
    private static void moveRadius() {
        Bounds.due("the least", 1, DisksBoundsTest::two, x -> x.move(0, 0, 0, 1));
        Bounds.due("the greatest", 1, DisksBoundsTest::two, x -> x.move(1, 2, 0, BILLION));
        Bounds.noArgument("below the least", DisksBoundsTest::two, x -> x.move(0, 0, 0, 0));
        Bounds.noArgument("above the greatest", DisksBoundsTest::two, x -> x.move(0, 0, 0, BILLION + 1));
    }

    // Promise 8: "Throws `IllegalArgumentException` if another argument is out of range"
    private static void moveOutOfRange() {
        for (int beyond : BEYOND) {
            Bounds.noArgument("move(0, " + beyond + ", 0, 1)", DisksBoundsTest::two, x -> x.move(0, beyond, 0, 1));
            Bounds.noArgument("move(1, 2, " + beyond + ", 1)", DisksBoundsTest::two, x -> x.move(1, 2, beyond, 1));
            Bounds.noArgument("move(1, " + beyond + ", 7, 7)", DisksBoundsTest::full, x -> x.move(1, beyond, 7, 7));
        }
        for (int beyond : NO_RADIUS) {
            Bounds.noArgument("move(0, 5, 5, " + beyond + ")", DisksBoundsTest::two, x -> x.move(0, 5, 5, beyond));
        }
    }

    // Promise 8: "Returns the radius before."
    private static void moveReturnsTheRadiusBefore() {
        Bounds.Maker ends = pair(at(0, 0, 1), at(0, 0, BILLION));
        Bounds.due("the least", 1, ends, x -> x.move(0, 0, 0, BILLION));
        Bounds.due("the greatest", BILLION, ends, x -> x.move(1, 0, 0, 1));
        Bounds.due("told anew, then told again", BILLION, ends, x -> {
            x.move(0, 7, 7, BILLION);
            return x.move(0, 0, 0, 2);
        });
    }

    // Promise 8, Terms: "If several apply, the one that the throws clause names first is thrown."
    private static void moveTellsTheDiskFirst() {
        Bounds.noIndex("none yet, x beyond", Bounds::fresh, x -> x.move(0, BILLION + 1, 0, 1));
        Bounds.noIndex("none yet, radius 0", Bounds::fresh, x -> x.move(0, 0, 0, 0));
        Bounds.noIndex("no disk 2, y beyond", DisksBoundsTest::two, x -> x.move(2, 0, BILLION + 1, 1));
        Bounds.noIndex("no disk -1, all beyond", DisksBoundsTest::two, x -> x.move(-1, LEAST, LEAST, LEAST));
    }

    // Promise 8, Terms: "A call that throws an exception changes nothing."
    private static void refusedMoveMovesNothing() {
        Koebehall x = two();
        Check.noArgument("y beyond", () -> x.move(0, 7, BILLION + 1, 9));
        Check.noArgument("radius beyond", () -> x.move(1, 7, 7, BILLION + 1));
        Check.noIndex("no disk 2", () -> x.move(2, 7, 7, 9));
        Check.due("they still touch", Koebehall.TOUCH, () -> x.lie(0, 1));
        Check.due("the radius of 0 is as before", 1, () -> x.move(0, 0, 0, 1));
        Check.due("the radius of 1 is as before", 1, () -> x.move(1, 2, 0, 1));
    }

    // Promise 9: "- `disk`: one"
    private static void lieOne() {
        Bounds.due("the first", Koebehall.TOUCH, DisksBoundsTest::full, x -> x.lie(0, 1));
        Bounds.due("the last", Koebehall.TOUCH, DisksBoundsTest::full, x -> x.lie(15, 14));
        Bounds.noIndex("below the first", DisksBoundsTest::full, x -> x.lie(-1, 14));
        Bounds.noIndex("above the last", DisksBoundsTest::full, x -> x.lie(16, 14));
    }

    // Promise 9: "- `other`: another one"
    private static void lieAnother() {
        Bounds.due("the first", Koebehall.TOUCH, DisksBoundsTest::full, x -> x.lie(1, 0));
        Bounds.due("the last", Koebehall.TOUCH, DisksBoundsTest::full, x -> x.lie(14, 15));
        Bounds.noIndex("below the first", DisksBoundsTest::full, x -> x.lie(1, -1));
        Bounds.noIndex("above the last", DisksBoundsTest::full, x -> x.lie(14, 16));
        Bounds.noArgument("the same", DisksBoundsTest::full, x -> x.lie(1, 1));
    }

    // Promise 9: "Throws `IndexOutOfBoundsException` if there is no such disk, of either"
    private static void lieNoSuchDisk() {
        Bounds.noIndex("none yet", Bounds::fresh, x -> x.lie(0, 1));
        for (int disk : new int[] {-1, 2, 16, LEAST, MOST}) {
            Bounds.noIndex("lie(" + disk + ", 0)", DisksBoundsTest::two, x -> x.lie(disk, 0));
            Bounds.noIndex("lie(0, " + disk + ")", DisksBoundsTest::two, x -> x.lie(0, disk));
        }
        Bounds.due("the last ones of 16", Koebehall.TOUCH, DisksBoundsTest::full, x -> x.lie(15, 14));
        Bounds.noIndex("one beyond 16", DisksBoundsTest::full, x -> x.lie(16, 15));
        Bounds.noIndex("one beyond 16", DisksBoundsTest::full, x -> x.lie(15, 16));
    }

    // Promise 9: "Throws `IllegalArgumentException` if both are the same"
    private static void lieOfTheSame() {
        Bounds.noArgument("the first", DisksBoundsTest::two, x -> x.lie(0, 0));
        Bounds.noArgument("the last", DisksBoundsTest::two, x -> x.lie(1, 1));
        Bounds.noArgument("the last of 16", DisksBoundsTest::full, x -> x.lie(15, 15));
        Bounds.due("alike in all but the number", Koebehall.OVERLAP, pair(at(3, 4, 5), at(3, 4, 5)), x -> x.lie(0, 1));
    }

    // Promise 9, Terms: "If several apply, the one that the throws clause names first is thrown."
    private static void lieTellsTheDiskFirst() {
        Bounds.noIndex("none yet, the same", Bounds::fresh, x -> x.lie(0, 0));
        Bounds.noIndex("no disk 2, the same", DisksBoundsTest::two, x -> x.lie(2, 2));
        Bounds.noIndex("no disk -1, the same", DisksBoundsTest::two, x -> x.lie(-1, -1));
        Bounds.noIndex("no disk 16, the same", DisksBoundsTest::full, x -> x.lie(16, 16));
    }

    // Promise 9: "Returns APART to OVERLAP."
    private static void lieReturnsApartToOverlap() {
        Bounds.due("the least", 0, pair(at(0, 0, 1), at(3, 0, 1)), x -> x.lie(0, 1));
        Bounds.due("the one between", 1, pair(at(0, 0, 1), at(2, 0, 1)), x -> x.lie(0, 1));
        Bounds.due("the greatest", 2, pair(at(0, 0, 1), at(1, 0, 1)), x -> x.lie(0, 1));
    }

    // Promise 9, Terms: "Two disks TOUCH, if the square of the distance of their middles is that of the sum of their
    // radii; they are APART, if it is more, and OVERLAP, if it is less."
    private static void touchApartOverlap() {
        lies("the least ones touch", Koebehall.TOUCH, at(0, 0, 1), at(0, 2, 1));
        lies("more by one", Koebehall.APART, at(0, 0, 1), at(2, 1, 1));
        lies("less by one", Koebehall.OVERLAP, at(0, 0, 1), at(2, 2, 2));
        lies("25 is 25", Koebehall.TOUCH, at(0, 0, 2), at(3, 4, 3));
        lies("26 is more than 25", Koebehall.APART, at(0, 0, 2), at(5, 1, 3));
        lies("20 is less than 25", Koebehall.OVERLAP, at(0, 0, 2), at(4, 2, 3));
    }

    // Promise 9, Terms: "All that is exact is exact."
    private static void lieAtTheEndsOfTheRanges() {
        int[] low = at(-BILLION, -BILLION, BILLION);
        lies("from end to end", Koebehall.TOUCH, low, at(BILLION, -BILLION, BILLION));
        lies("more by one", Koebehall.APART, low, at(BILLION, -BILLION + 1, BILLION));
        lies("a radius less by one", Koebehall.APART, low, at(BILLION, -BILLION, BILLION - 1));
        lies("nearer by one", Koebehall.OVERLAP, low, at(BILLION - 1, -BILLION, BILLION));
        lies("from corner to corner", Koebehall.APART, low, at(BILLION, BILLION, BILLION));
        lies("the least ones at the corners", Koebehall.APART, at(-BILLION, BILLION, 1), at(BILLION, -BILLION, 1));
        lies("3, 4 and 5 at the end", Koebehall.TOUCH, at(-600000000, 0, BILLION), at(600000000, -900000000, 500000000));
        // 2 k k, 2 k and 2 k k + 1, with 31622 as k: the squares of the former two are less by one together.
        lies("a square less by one", Koebehall.OVERLAP, at(-BILLION, 0, BILLION), at(999901768, 63244, 999901769));
    }

    // Promise 9, Terms: "they are APART, if it is more, and OVERLAP, if it is less."
    private static void lieOneInTheOther() {
        lies("of one middle", Koebehall.OVERLAP, at(5, 5, 1), at(5, 5, BILLION));
        lies("touching from inside", Koebehall.OVERLAP, at(0, 0, 10), at(7, 0, 3));
        lies("wholly inside", Koebehall.OVERLAP, at(0, 0, 10), at(1, 0, 3));
    }

    // Promise 10: "- `how`: APART to OVERLAP"
    private static void pairsHows() {
        Bounds.due("the least", 105, DisksBoundsTest::full, x -> x.pairs(Koebehall.APART));
        Bounds.due("the one between", 15, DisksBoundsTest::full, x -> x.pairs(Koebehall.TOUCH));
        Bounds.due("the greatest", 0, DisksBoundsTest::full, x -> x.pairs(Koebehall.OVERLAP));
        Bounds.noArgument("below the least", DisksBoundsTest::full, x -> x.pairs(Koebehall.APART - 1));
        Bounds.noArgument("above the greatest", DisksBoundsTest::full, x -> x.pairs(Koebehall.OVERLAP + 1));
    }

    // Promise 10: "Returns how many pairs."
    private static void pairsOfFewDisks() {
        for (int how = 0; how < 3; how++) {
            int asked = how;
            Bounds.due("pairs(" + asked + ") of none", 0, Bounds::fresh, x -> x.pairs(asked));
            Bounds.due("pairs(" + asked + ") of one", 0, () -> rowOf(1), x -> x.pairs(asked));
        }
        Bounds.due("of two", 1, DisksBoundsTest::two, x -> x.pairs(Koebehall.TOUCH));
        Bounds.due("of two", 0, DisksBoundsTest::two, x -> x.pairs(Koebehall.APART));
        Bounds.due("of two", 0, DisksBoundsTest::two, x -> x.pairs(Koebehall.OVERLAP));
    }

    // Promise 10: "Returns how many pairs."
    private static void pairsOfSixteen() {
        Bounds.due("touching in a row", 15, DisksBoundsTest::full, x -> x.pairs(Koebehall.TOUCH));
        Bounds.due("apart in a row", 105, DisksBoundsTest::full, x -> x.pairs(Koebehall.APART));
        Bounds.due("overlapping in a row", 0, DisksBoundsTest::full, x -> x.pairs(Koebehall.OVERLAP));
        Bounds.Maker heap = () -> {
            Koebehall x = new Koebehall();
            for (int disk = 0; disk < 16; disk++) {
                x.disk(0, 0, disk + 1);
            }
            return x;
        };
        Bounds.due("all upon each other", 120, heap, x -> x.pairs(Koebehall.OVERLAP));
    }

    // Promise 10: "Throws `IllegalArgumentException` if how is out of range"
    private static void pairsOutOfRange() {
        for (int how : new int[] {-1, 3, LEAST, MOST}) {
            Bounds.noArgument("pairs(" + how + ") of none", Bounds::fresh, x -> x.pairs(how));
            Bounds.noArgument("pairs(" + how + ") of 16", DisksBoundsTest::full, x -> x.pairs(how));
        }
    }

    private static Koebehall four() {
        Koebehall x = new Koebehall();
        x.disk(0, 0, 23);
        x.disk(69, 0, 46);
        x.disk(0, 92, 69);
        x.disk(21, 20, 6);
        return x;
    }

    // Promise 11, Terms: "The disks draw the net, if there are as many as corners, and each two of them TOUCH, if the
    // corners of their numbers are neighbours, and are APART otherwise."
    private static void drawsAsManyAsCorners() {
        Bounds.due("no disks", false, Bounds::fresh, x -> x.draws());
        Bounds.Maker three = () -> {
            Koebehall x = new Koebehall();
            x.disk(0, 0, 23);
            x.disk(69, 0, 46);
            x.disk(0, 92, 69);
            return x;
        };
        Bounds.due("one too few", false, three, x -> x.draws());
        Bounds.due("as many", true, DisksBoundsTest::four, x -> x.draws());
        Bounds.Maker fifth = () -> {
            Koebehall x = four();
            x.disk(-BILLION, -BILLION, 1);
            return x;
        };
        Bounds.due("one too many", false, fifth, x -> x.draws());
        Bounds.Maker split = () -> {
            Koebehall x = four();
            x.split(0);
            return x;
        };
        Bounds.due("a corner more", false, split, x -> x.draws());
    }

    // Promise 11, Terms: "The disks draw the net, if there are as many as corners, and each two of them TOUCH, if the
    // corners of their numbers are neighbours, and are APART otherwise."
    private static void drawsWithAllApart() {
        Bounds.Maker five = () -> {
            Koebehall x = new Koebehall();
            x.split(0);
            x.disk(285, 0, 285);
            x.disk(0, 380, 190);
            x.disk(0, 152, 38);
            x.disk(-285, 0, 285);
            x.disk(45, 180, 15);
            return x;
        };
        Bounds.due("3 and 4 are apart", true, five, x -> x.draws());
        Bounds.due("3 and 4 overlap, all else touches", false, five, x -> {
            x.move(3, 45, 180, 15);
            return x.draws();
        });
        Bounds.due("3 and 4 are neighbours now", false, five, x -> {
            x.flip(0, 1);
            return x.draws();
        });
    }

    /** The corners 4 to 15 are put into these faces; each disk, from 3 on, lies between the three of the face. */
    private static final int[] SPLITS = {1, 5, 7, 9, 11, 13, 15, 2, 3, 2, 21, 17};
    private static final int[][] SIXTEEN = {{-55440, 0, 55440}, {55440, 0, 55440}, {0, -41580, 13860}, {0, -23100, 4620},
        {0, -16170, 2310}, {0, -12474, 1386}, {0, -10164, 924}, {0, -8580, 660}, {0, -7425, 495}, {0, -6545, 385},
        {0, -5852, 308}, {5040, -26880, 1680}, {-5040, -26880, 1680}, {5040, -24570, 630}, {-5040, -24570, 630},
        {0, -5292, 252}};

    private static Koebehall drawn(int disks, int corners) {
        Koebehall x = new Koebehall();
        for (int corner = 4; corner < corners; corner++) {
            x.split(SPLITS[corner - 4]);
        }
        for (int disk = 0; disk < disks; disk++) {
            x.disk(SIXTEEN[disk][0], SIXTEEN[disk][1], SIXTEEN[disk][2]);
        }
        return x;
    }

    // Promise 11: "Tells whether the disks draw the net."
    private static void drawsSixteen() {
        for (int corners = 4; corners <= 16; corners++) {
            int many = corners;
            Bounds.due(many + " of " + many, true, () -> drawn(many, many), x -> x.draws());
            Bounds.due("one too few of " + many, false, () -> drawn(many - 1, many), x -> x.draws());
            if (many < 16) {
                Bounds.due("one too many of " + many, false, () -> drawn(many + 1, many), x -> x.draws());
            }
        }
        Bounds.Maker sixteen = () -> drawn(16, 16);
        Bounds.due("all edges touch", 42, sixteen, x -> x.pairs(Koebehall.TOUCH));
        Bounds.due("the last one is greater by one", false, sixteen, x -> {
            x.move(15, 0, -5292, 253);
            return x.draws();
        });
        for (int disk = 0; disk < 16; disk++) {
            int at = disk;
            int[] row = SIXTEEN[at];
            Bounds.due("one is less by one", false, sixteen, x -> {
                x.move(at, row[0], row[1], row[2] - 1);
                return x.draws();
            });
        }
        Bounds.due("the last two change places", false, sixteen, x -> {
            x.move(15, -5040, -24570, 630);
            x.move(14, 0, -5292, 252);
            return x.draws();
        });
        Bounds.due("a refused split leaves it drawn", true, sixteen, x -> {
            Check.noState("a seventeenth corner", () -> x.split(0));
            return x.draws();
        });
    }
}
