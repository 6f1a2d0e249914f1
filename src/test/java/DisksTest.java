import java.math.BigInteger;
import java.util.ArrayList;
import java.util.List;

/** Promises 7 to 11: disk, move, lie, pairs, draws. */
public final class DisksTest {
    private static final int BILLION = 1000000000;

    public static void main(String[] args) {
        numbersAndRanges();
        moveRefuses();
        lieByHand();
        lieWhereIntsEnd();
        pairsByHand();
        drawsByHand();
        drawsAfterSplit();
        drawsNeedsAllApart();
        drawsNeedsEachPair();
        drawsWhatAFlipChanges();
        for (int run = 0; run < 30; run++) {
            runAtWill(run);
        }
        Check.end();
    }

    private static void numbersAndRanges() {
        Koebehall x = new Koebehall();
        wrongDisks(x);
        Check.due("the first", 0, () -> x.disk(BILLION, BILLION, BILLION));
        Check.due("the second", 1, () -> x.disk(-BILLION, -BILLION, 1));
        for (int number = 2; number < 16; number++) {
            int due = number;
            Check.due("disk " + due, due, () -> x.disk(0, 0, due));
        }
        Check.noState("there are 16", () -> x.disk(0, 0, 1));
        wrongDisks(x);
        Check.due("the last one", 15, () -> x.move(15, 0, 0, 1));
        Check.noIndex("no disk 16", () -> x.move(16, 0, 0, 1));
        Check.due("pairs", 120, () -> x.pairs(0) + x.pairs(1) + x.pairs(2));
    }

    private static void wrongDisks(Koebehall x) {
        Check.noArgument("x above", () -> x.disk(BILLION + 1, 0, 1));
        Check.noArgument("x below", () -> x.disk(-BILLION - 1, 0, 1));
        Check.noArgument("y above", () -> x.disk(0, BILLION + 1, 1));
        Check.noArgument("y below", () -> x.disk(0, -BILLION - 1, 1));
        Check.noArgument("radius 0", () -> x.disk(0, 0, 0));
        Check.noArgument("radius below 0", () -> x.disk(0, 0, -1));
        Check.noArgument("radius above", () -> x.disk(0, 0, BILLION + 1));
        Check.noArgument("x least", () -> x.disk(Integer.MIN_VALUE, 0, 1));
        Check.noArgument("y most", () -> x.disk(0, Integer.MAX_VALUE, 1));
        Check.noArgument("radius least", () -> x.disk(0, 0, Integer.MIN_VALUE));
    }

    private static void moveRefuses() {
        Koebehall x = new Koebehall();
        Check.noIndex("no disk yet", () -> x.move(0, 0, 0, 1));
        x.disk(0, 0, 5);
        x.disk(8, 0, 3);
        Check.noIndex("move(-1)", () -> x.move(-1, 0, 0, 1));
        Check.noIndex("move(2)", () -> x.move(2, 0, 0, 1));
        Check.noIndex("an index is told first", () -> x.move(2, 0, 0, 0));
        Check.noIndex("an index is told first", () -> x.move(-1, BILLION + 1, 0, 1));
        Check.noArgument("x above", () -> x.move(0, BILLION + 1, 0, 1));
        Check.noArgument("x below", () -> x.move(0, -BILLION - 1, 0, 1));
        Check.noArgument("y above", () -> x.move(0, 0, BILLION + 1, 1));
        Check.noArgument("y below", () -> x.move(0, 0, -BILLION - 1, 1));
        Check.noArgument("radius 0", () -> x.move(0, 0, 0, 0));
        Check.noArgument("radius above", () -> x.move(0, 0, 0, BILLION + 1));
        Check.due("unchanged", Koebehall.TOUCH, () -> x.lie(0, 1));
        Check.due("move", 5, () -> x.move(0, -BILLION, BILLION, BILLION));
        Check.due("move", BILLION, () -> x.move(0, BILLION, -BILLION, 1));
        Check.due("move", 1, () -> x.move(0, 1, 0, 4));
        Check.due("still touching", Koebehall.TOUCH, () -> x.lie(0, 1));
        Check.due("the other one's radius", 3, () -> x.move(1, 0, 0, 1));
        Check.due("one in the other", Koebehall.OVERLAP, () -> x.lie(1, 0));
    }

    private static void lieByHand() {
        Koebehall x = new Koebehall();
        x.disk(0, 0, 2);
        x.disk(3, 4, 3);
        x.disk(3, -4, 2);
        x.disk(-3, 4, 4);
        Check.due("touch", Koebehall.TOUCH, () -> x.lie(0, 1));
        Check.due("touch", Koebehall.TOUCH, () -> x.lie(1, 0));
        Check.due("apart", Koebehall.APART, () -> x.lie(0, 2));
        Check.due("apart", Koebehall.APART, () -> x.lie(2, 0));
        Check.due("overlap", Koebehall.OVERLAP, () -> x.lie(0, 3));
        Check.due("overlap", Koebehall.OVERLAP, () -> x.lie(3, 0));
        Check.due("apart", Koebehall.APART, () -> x.lie(1, 2));
        Check.noArgument("the same", () -> x.lie(0, 0));
        Check.noArgument("the same", () -> x.lie(3, 3));
        Check.noIndex("lie(0, 4)", () -> x.lie(0, 4));
        Check.noIndex("lie(4, 0)", () -> x.lie(4, 0));
        Check.noIndex("lie(-1, 0)", () -> x.lie(-1, 0));
        Check.noIndex("lie(0, -1)", () -> x.lie(0, -1));
        Check.noIndex("an index is told first", () -> x.lie(4, 4));
        Check.noIndex("an index is told first", () -> x.lie(-1, -1));
    }

    private static void lieWhereIntsEnd() {
        Koebehall x = new Koebehall();
        x.disk(-BILLION, -BILLION, BILLION);
        x.disk(BILLION, -BILLION, BILLION);
        x.disk(BILLION, BILLION, BILLION);
        x.disk(600000000, -200000000, 1);
        Check.due("touch", Koebehall.TOUCH, () -> x.lie(0, 1));
        Check.due("touch", Koebehall.TOUCH, () -> x.lie(2, 1));
        Check.due("apart", Koebehall.APART, () -> x.lie(2, 0));
        x.move(1, BILLION, -BILLION, 999999999);
        Check.due("apart by one", Koebehall.APART, () -> x.lie(0, 1));
        x.move(1, 999999998, -BILLION, BILLION);
        Check.due("overlap by one", Koebehall.OVERLAP, () -> x.lie(0, 1));
        x.move(1, 999999999, -BILLION + 1, 999999999);
        Check.due("apart by a square", Koebehall.APART, () -> x.lie(0, 1));
    }

    private static void pairsByHand() {
        Koebehall x = new Koebehall();
        Check.due("none", 0, () -> x.pairs(Koebehall.APART));
        x.disk(0, 0, 1);
        Check.due("one alone", 0, () -> x.pairs(0) + x.pairs(1) + x.pairs(2));
        x.disk(2, 0, 1);
        x.disk(4, 0, 1);
        x.disk(5, 0, 1);
        x.disk(50, 0, 1);
        Check.due("apart", 7, () -> x.pairs(Koebehall.APART));
        Check.due("touch", 2, () -> x.pairs(Koebehall.TOUCH));
        Check.due("overlap", 1, () -> x.pairs(Koebehall.OVERLAP));
        Check.noArgument("pairs(-1)", () -> x.pairs(-1));
        Check.noArgument("pairs(3)", () -> x.pairs(3));
        Check.noArgument("pairs(most)", () -> x.pairs(Integer.MAX_VALUE));
    }

    private static Koebehall drawn() {
        Koebehall x = new Koebehall();
        x.disk(0, 0, 23);
        x.disk(69, 0, 46);
        x.disk(0, 92, 69);
        x.disk(21, 20, 6);
        return x;
    }

    private static void drawsByHand() {
        Koebehall none = new Koebehall();
        Check.holdsNot("no disks draw", () -> none.draws());
        Koebehall x = drawn();
        Check.holds("four that touch draw", () -> x.draws());
        x.move(3, 21, 20, 5);
        Check.holdsNot("one is apart", () -> x.draws());
        x.move(3, 21, 20, 7);
        Check.holdsNot("one overlaps", () -> x.draws());
        x.move(3, 21, 20, 6);
        Check.holds("drawn anew", () -> x.draws());
        x.disk(500, 500, 1);
        Check.holdsNot("one too many", () -> x.draws());
    }

    private static void drawsAfterSplit() {
        Koebehall x = drawn();
        x.split(0);
        Check.holdsNot("one too few", () -> x.draws());
        x.disk(1000, 1000, 1);
        Check.holdsNot("as many, but the last one touches none", () -> x.draws());
    }

    /** 0, 1 and 2 touch by pairs, and 3 and 4, of the curvatures 2 and 38 by 570, both touch them. */
    private static Koebehall fiveDrawn() {
        Koebehall x = new Koebehall();
        x.split(0);
        x.disk(285, 0, 285);
        x.disk(0, 380, 190);
        x.disk(0, 152, 38);
        x.disk(-285, 0, 285);
        x.disk(45, 180, 15);
        return x;
    }

    private static void drawsNeedsAllApart() {
        Koebehall x = fiveDrawn();
        Check.holds("five drawn", () -> x.draws());
        x.move(3, 45, 180, 15);
        Check.due("all neighbours touch", 9, () -> x.pairs(Koebehall.TOUCH));
        Check.holdsNot("3 and 4 are no neighbours, but overlap", () -> x.draws());
        x.move(3, -285, 0, 285);
        Check.holds("drawn again", () -> x.draws());
        x.move(0, -285, 0, 285);
        x.move(3, 285, 0, 285);
        Check.holdsNot("0 and 4 do not touch any more", () -> x.draws());
    }

    /** Of four disks all touch but two: these lie apart, or one upon the other. */
    private static void drawsNeedsEachPair() {
        int[][] rows = {{0, 4, 2}, {0, -4, 2}, {-3, 0, 3}, {3, 0, 3}};
        for (int other = 1; other < 4; other++) {
            for (int disk = 0; disk < other; disk++) {
                Koebehall x = new Koebehall();
                int next = 2;
                for (int number = 0; number < 4; number++) {
                    int[] row = number == disk ? rows[0] : number == other ? rows[1] : rows[next++];
                    x.disk(row[0], row[1], row[2]);
                }
                String what = disk + " and " + other;
                Check.due(what + " alone do not touch", 5, () -> x.pairs(Koebehall.TOUCH));
                Check.holdsNot(what + " lie apart", () -> x.draws());
                x.move(other, rows[0][0], rows[0][1], rows[0][2]);
                Check.due(what + " alone do not touch", 5, () -> x.pairs(Koebehall.TOUCH));
                Check.holdsNot(what + " overlap", () -> x.draws());
            }
        }
    }

    private static void drawsWhatAFlipChanges() {
        Koebehall x = fiveDrawn();
        x.flip(0, 1);
        Check.holdsNot("3 and 4 are neighbours now, 0 and 1 are not", () -> x.draws());
        x.flip(3, 4);
        Check.holds("0 and 1 are neighbours again", () -> x.draws());
        x.split(0);
        Check.holdsNot("a corner more than disks", () -> x.draws());
    }

    private static void runAtWill(int run) {
        Koebehall x = new Koebehall();
        List<int[]> model = new ArrayList<>();
        int spread = new int[] {6, 30, BILLION}[run % 3];
        int size = new int[] {3, 20, BILLION}[run % 3];
        for (int step = 0; step < 40; step++) {
            int[] row = {Check.pickFrom(-spread, spread), Check.pickFrom(-spread, spread), Check.pickFrom(1, size)};
            if (model.size() < 16 && Check.pick(3) > 0) {
                Check.dueLong("disk", model.size(), x.disk(row[0], row[1], row[2]));
                model.add(row);
            } else if (!model.isEmpty()) {
                int at = Check.pick(model.size());
                Check.dueLong("move", model.get(at)[2], x.move(at, row[0], row[1], row[2]));
                model.set(at, row);
            }
        }
        int[] found = new int[3];
        for (int a = 0; a < model.size(); a++) {
            for (int b = 0; b < model.size(); b++) {
                if (a != b) {
                    int due = howTheyLie(model.get(a), model.get(b));
                    Check.dueLong("run " + run + " lie(" + a + ", " + b + ")", due, x.lie(a, b));
                    found[due] += a < b ? 1 : 0;
                }
            }
        }
        for (int how = 0; how < 3; how++) {
            Check.dueLong("run " + run + " pairs(" + how + ")", found[how], x.pairs(how));
        }
    }

    private static int howTheyLie(int[] a, int[] b) {
        BigInteger wide = BigInteger.valueOf((long) a[0] - b[0]);
        BigInteger high = BigInteger.valueOf((long) a[1] - b[1]);
        BigInteger reach = BigInteger.valueOf((long) a[2] + b[2]);
        int sign = wide.pow(2).add(high.pow(2)).compareTo(reach.pow(2));
        return sign > 0 ? Koebehall.APART : sign == 0 ? Koebehall.TOUCH : Koebehall.OVERLAP;
    }
}
