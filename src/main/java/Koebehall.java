import java.util.ArrayList;
import java.util.Arrays;

/** A hall of circles that touch; ../shared/DOC.md says what each call answers. */
public final class Koebehall {
    public static final int NONE = -1;
    public static final int APART = 0, TOUCH = 1, OVERLAP = 2;

    private static final int MOST_DISKS = 16;
    private static final int MOST_GASKETS = 8;
    private static final int MOST_MOVES = 4;
    private static final int MOST_WIRES = 10;
    private static final int MOST_NODES = 6;
    private static final int MOST_IN_MOVE = 1000;
    private static final int MOST_IN_GASKET = 1000000;
    private static final int MOST_BOUND = 1000;
    private static final int BILLION = 1000000000;
    private static final long MOST_CURVATURE = 1000000000000000L;

    private final Net sphere;
    private final ArrayList<Disk> disks;
    private final ArrayList<Gasket> gaskets;
    private final RemainderWalk remainderWalk;
    private final ArrayList<Table> moves;
    private Table product;
    private final Network network;

    public Koebehall() {
        sphere = new Net();
        disks = new ArrayList<Disk>();
        gaskets = new ArrayList<Gasket>();
        remainderWalk = new RemainderWalk();
        moves = new ArrayList<Table>();
        product = new Table(1, 0, 0, 1);
        network = new Network();
    }

    // ---- the net

    public int split(int face) throws IndexOutOfBoundsException, IllegalStateException {
        if (!sphere.hasFace(face)) {
            throw new IndexOutOfBoundsException("there is no such face");
        }
        if (sphere.isFull()) {
            throw new IllegalStateException("there are 16 corners");
        }
        return sphere.splitFace(face);
    }

    public int flip(int corner, int other) throws IndexOutOfBoundsException, IllegalStateException {
        if (!sphere.hasCorner(corner) || !sphere.hasCorner(other)) {
            throw new IndexOutOfBoundsException("there is no such corner");
        }
        if (!sphere.canFlip(corner, other)) {
            throw new IllegalStateException("they are no neighbours, or it cannot be done");
        }
        return sphere.flipEdge(corner, other);
    }

    public int corner(int face, int place) throws IndexOutOfBoundsException {
        if (!sphere.hasFace(face) || place < 0 || place > 2) {
            throw new IndexOutOfBoundsException("there is no such face or place");
        }
        return sphere.cornerOf(face, place);
    }

    public int around(int corner, int place) throws IndexOutOfBoundsException {
        if (!sphere.hasCorner(corner) || place < 0) {
            throw new IndexOutOfBoundsException("there is no such corner, or place is below 0");
        }
        return sphere.neighbourAt(corner, place);
    }

    public int net(int what) throws IndexOutOfBoundsException {
        switch (what) {
            case 0:
                return sphere.cornerCount;
            case 1:
                return sphere.edgeCount();
            case 2:
                return sphere.faceCount;
            case 3:
                return sphere.flippableCount();
            case 4:
                return sphere.mostNeighbours();
            default:
                throw new IndexOutOfBoundsException("what is out of range");
        }
    }

    // ---- disks

    public int disk(int x, int y, int radius) throws IllegalArgumentException, IllegalStateException {
        if (!isDisk(x, y, radius)) {
            throw new IllegalArgumentException("an argument is out of range");
        }
        if (disks.size() >= MOST_DISKS) {
            throw new IllegalStateException("there are 16");
        }
        disks.add(new Disk(x, y, radius));
        return disks.size() - 1;
    }

    public int move(int disk, int x, int y, int radius) throws IndexOutOfBoundsException, IllegalArgumentException {
        if (!hasDisk(disk)) {
            throw new IndexOutOfBoundsException("there is no such disk");
        }
        if (!isDisk(x, y, radius)) {
            throw new IllegalArgumentException("an argument is out of range");
        }
        Disk before = disks.get(disk);
        disks.set(disk, new Disk(x, y, radius));
        return (int) before.radius;
    }

    public int lie(int disk, int other) throws IndexOutOfBoundsException, IllegalArgumentException {
        if (!hasDisk(disk) || !hasDisk(other)) {
            throw new IndexOutOfBoundsException("there is no such disk");
        }
        if (disk == other) {
            throw new IllegalArgumentException("both are the same");
        }
        return howDisksLie(disk, other);
    }

    public int pairs(int how) throws IllegalArgumentException {
        if (how < APART || how > OVERLAP) {
            throw new IllegalArgumentException("how is out of range");
        }
        int found = 0;
        for (int other = 1; other < disks.size(); other++) {
            for (int disk = 0; disk < other; disk++) {
                if (howDisksLie(disk, other) == how) {
                    found++;
                }
            }
        }
        return found;
    }

    public boolean draws() {
        if (disks.size() != sphere.cornerCount) {
            return false;
        }
        for (int other = 1; other < disks.size(); other++) {
            for (int disk = 0; disk < other; disk++) {
                int due = sphere.areNeighbours(disk, other) ? TOUCH : APART;
                if (howDisksLie(disk, other) != due) {
                    return false;
                }
            }
        }
        return true;
    }

    private static boolean isDisk(int x, int y, int radius) {
        return isWithin(x, BILLION) && isWithin(y, BILLION) && radius >= 1 && radius <= BILLION;
    }

    private boolean hasDisk(int disk) {
        return disk >= 0 && disk < disks.size();
    }

    private int howDisksLie(int disk, int other) {
        return hasDisk(disk) && hasDisk(other) ? disks.get(disk).howItLies(disks.get(other)) : NONE;
    }

    private static boolean isWithin(long value, long most) {
        return value >= -most && value <= most;
    }

    // ---- gaskets

    public int gasket(int a, int b, int c, int d) throws IllegalArgumentException, IllegalStateException {
        if (!areFourWithin(a, b, c, d, MOST_IN_GASKET)) {
            throw new IllegalArgumentException("an argument is out of range");
        }
        if (!Gasket.areOfGasket(a, b, c, d)) {
            throw new IllegalArgumentException("they are none of a gasket");
        }
        if (gaskets.size() >= MOST_GASKETS) {
            throw new IllegalStateException("there are 8");
        }
        gaskets.add(new Gasket(a, b, c, d));
        return gaskets.size() - 1;
    }

    public long turn(int gasket, int place) throws IndexOutOfBoundsException, IllegalStateException {
        long[] four = fourOf(gasket, place);
        long turned = Gasket.turnedAt(four, place);
        if (turned > MOST_CURVATURE) {
            throw new IllegalStateException("the curvature would be above 1000000000000000");
        }
        four[place] = turned;
        return turned;
    }

    public long curvature(int gasket, int place) throws IndexOutOfBoundsException {
        return fourOf(gasket, place)[place];
    }

    public float radius(int gasket, int place) throws IndexOutOfBoundsException {
        // A float's division by 0 throws nothing: it answers infinity, as is due.
        return 1.0f / (float) fourOf(gasket, place)[place];
    }

    public long root(int gasket, int rank) throws IndexOutOfBoundsException {
        Gasket asked = gasketOf(gasket);
        if (rank < 0 || rank > 3) {
            throw new IndexOutOfBoundsException("there is no such rank");
        }
        return asked.least[rank];
    }

    public int count(int gasket, int bound)
            throws IndexOutOfBoundsException, IllegalArgumentException, IllegalStateException {
        return boundedGasket(gasket, bound).circlesByTurns(bound);
    }

    public int countAnew(int gasket, int bound)
            throws IndexOutOfBoundsException, IllegalArgumentException, IllegalStateException {
        return boundedGasket(gasket, bound).circlesByThrees(bound);
    }

    public int remainders(int gasket, int by) throws IndexOutOfBoundsException, IllegalArgumentException {
        Gasket asked = gasketOf(gasket);
        if (by < 2 || by > 8) {
            throw new IllegalArgumentException("by is out of range");
        }
        return remainderWalk.allReached(asked.four, by);
    }

    private static boolean areFourWithin(int a, int b, int c, int d, int most) {
        return isWithin(a, most) && isWithin(b, most) && isWithin(c, most) && isWithin(d, most);
    }

    private Gasket gasketOf(int gasket) {
        if (gasket < 0 || gasket >= gaskets.size()) {
            throw new IndexOutOfBoundsException("there is no such gasket");
        }
        return gaskets.get(gasket);
    }

    private long[] fourOf(int gasket, int place) {
        Gasket asked = gasketOf(gasket);
        if (place < 0 || place > 3) {
            throw new IndexOutOfBoundsException("there is no such place");
        }
        return asked.four;
    }

    private Gasket boundedGasket(int gasket, int bound) {
        Gasket asked = gasketOf(gasket);
        if (bound < 1 || bound > MOST_BOUND) {
            throw new IllegalArgumentException("bound is out of range");
        }
        if (asked.least[0] >= 0) {
            throw new IllegalStateException("the gasket is not bounded");
        }
        return asked;
    }

    // ---- fractions

    public int ford(int p, int q, int r, int s) throws IllegalArgumentException {
        refuseNoFraction(p, q);
        refuseNoFraction(r, s);
        long apart = Fractions.crossed(p, q, r, s);
        if (apart == 0) {
            return OVERLAP;
        }
        return apart == 1 || apart == -1 ? TOUCH : APART;
    }

    public long between(int p, int q, int r, int s, boolean isTop) throws IllegalArgumentException {
        refuseNoFraction(p, q);
        refuseNoFraction(r, s);
        long apart = Fractions.crossed(p, q, r, s);
        if (apart == 0) {
            throw new IllegalArgumentException("both are the same");
        }
        return apart < 0 ? Fractions.simplest(p, q, r, s, isTop) : Fractions.simplest(r, s, p, q, isTop);
    }

    private static void refuseNoFraction(int p, int q) {
        if (!isWithin(p, BILLION) || q < 1 || q > BILLION) {
            throw new IllegalArgumentException("an argument is out of range");
        }
        if (!Fractions.isLowest(p, q)) {
            throw new IllegalArgumentException("a fraction is not in lowest terms");
        }
    }

    // ---- words

    public int tell(int a, int b, int c, int d) throws IllegalArgumentException, IllegalStateException {
        if (!areFourWithin(a, b, c, d, MOST_IN_MOVE)) {
            throw new IllegalArgumentException("an argument is out of range");
        }
        if (a * d - b * c != 1) {
            throw new IllegalArgumentException("a d less b c is not 1");
        }
        if (moves.size() >= MOST_MOVES) {
            throw new IllegalStateException("there are 4");
        }
        moves.add(new Table(a, b, c, d));
        return moves.size() - 1;
    }

    public int append(int move, boolean isUndo) throws IndexOutOfBoundsException, IllegalStateException {
        if (move < 0 || move >= moves.size()) {
            throw new IndexOutOfBoundsException("there is no such move");
        }
        Table told = moves.get(move);
        Table next = product.times(isUndo ? told.undone() : told);
        if (!next.isWhollyWithin(BILLION)) {
            throw new IllegalStateException("a number of the word would be too great");
        }
        product = next;
        return (int) product.trace();
    }

    public int home() {
        int before = (int) product.trace();
        product = new Table(1, 0, 0, 1);
        return before;
    }

    public int word(int what) throws IndexOutOfBoundsException {
        switch (what) {
            case 0:
                return (int) product.a;
            case 1:
                return (int) product.b;
            case 2:
                return (int) product.c;
            case 3:
                return (int) product.d;
            case 4:
                return product.kind();
            default:
                throw new IndexOutOfBoundsException("what is out of range");
        }
    }

    public long image(int p, int q, boolean isTop) throws IllegalArgumentException {
        if (!isWithin(p, BILLION) || q < 0 || q > BILLION) {
            throw new IllegalArgumentException("an argument is out of range");
        }
        if (!Fractions.isLowest(p, q) || q == 0 && p != 1) {
            throw new IllegalArgumentException("the fraction is not in lowest terms");
        }
        long top = product.a * p + product.b * q;
        long bottom = product.c * p + product.d * q;
        boolean isTurned = bottom < 0 || bottom == 0 && top < 0;
        long asked = isTop ? top : bottom;
        return isTurned ? -asked : asked;
    }

    // ---- networks

    public int nodes(int many) throws IllegalArgumentException {
        if (many < 2 || many > MOST_NODES) {
            throw new IllegalArgumentException("many is out of range");
        }
        return network.beginAnew(many);
    }

    public int wire(int node, int other) throws IndexOutOfBoundsException, IllegalArgumentException, IllegalStateException {
        if (!network.hasNode(node) || !network.hasNode(other)) {
            throw new IndexOutOfBoundsException("there is no such node");
        }
        if (node == other) {
            throw new IllegalArgumentException("both are the same");
        }
        if (network.wires.size() >= MOST_WIRES) {
            throw new IllegalStateException("there are 10");
        }
        network.wires.add(new Wire(node, other));
        return network.wires.size() - 1;
    }

    public int trees() {
        return (int) network.treesByTable();
    }

    public int treesAnew() {
        return network.treesBySets();
    }

    public int side(int from, int to, int wire)
            throws IndexOutOfBoundsException, IllegalArgumentException, IllegalStateException {
        if (!network.hasNode(from) || !network.hasNode(to)) {
            throw new IndexOutOfBoundsException("there is no such node");
        }
        if (wire != NONE && !network.hasWire(wire)) {
            throw new IndexOutOfBoundsException("there is no such wire");
        }
        if (from == to) {
            throw new IllegalArgumentException("both nodes are the same");
        }
        if (network.treesByTable() == 0) {
            throw new IllegalStateException("the network has no tree");
        }
        return (int) (wire == NONE ? network.heightOf(from, from, to) : network.fallAlong(wire, from, to));
    }

    /** A sphere of faces. Each stands in a row by its corners, the lowest one first, and by its edges in a table. */
    private static final class Net {
        private static final int MOST_CORNERS = 16;
        private static final int MOST_FACES = 2 * MOST_CORNERS - 4;
        private static final int[] FIRST_FACES = {0, 1, 2, 0, 3, 1, 1, 3, 2, 0, 2, 3};

        private final int[] named;
        // For each two corners, the third one of the face in which the second is named behind the first, or NONE.
        private final int[] thirds;
        private int cornerCount;
        private int faceCount;

        private Net() {
            named = new int[3 * MOST_FACES];
            thirds = new int[MOST_CORNERS * MOST_CORNERS];
            Arrays.fill(thirds, NONE);
            cornerCount = 4;
            faceCount = 4;
            for (int face = 0; face < faceCount; face++) {
                putFace(face, FIRST_FACES[3 * face], FIRST_FACES[3 * face + 1], FIRST_FACES[3 * face + 2]);
            }
        }

        private boolean hasFace(int face) {
            return face >= 0 && face < faceCount;
        }

        private boolean hasCorner(int corner) {
            return corner >= 0 && corner < cornerCount;
        }

        private boolean isFull() {
            return cornerCount >= MOST_CORNERS;
        }

        private int cornerOf(int face, int place) {
            return named[3 * face + place];
        }

        private int splitFace(int face) {
            int a = cornerOf(face, 0);
            int b = cornerOf(face, 1);
            int c = cornerOf(face, 2);
            int added = cornerCount;
            putFace(face, a, b, added);
            putFace(faceCount, b, c, added);
            putFace(faceCount + 1, c, a, added);
            cornerCount++;
            faceCount += 2;
            return added;
        }

        private void putFace(int face, int a, int b, int c) {
            if (a < b && a < c) {
                putCorners(face, a, b, c);
            } else if (b < c) {
                putCorners(face, b, c, a);
            } else {
                putCorners(face, c, a, b);
            }
        }

        private void putCorners(int face, int first, int second, int last) {
            named[3 * face] = first;
            named[3 * face + 1] = second;
            named[3 * face + 2] = last;
            putThird(first, second, last);
            putThird(second, last, first);
            putThird(last, first, second);
        }

        private void putThird(int corner, int other, int third) {
            thirds[MOST_CORNERS * corner + other] = third;
        }

        /** The last corner of the face in which the other one is named behind the corner; NONE if there is none. */
        private int thirdOf(int corner, int other) {
            return hasCorner(corner) && hasCorner(other) ? thirds[MOST_CORNERS * corner + other] : NONE;
        }

        private boolean areNeighbours(int corner, int other) {
            return thirdOf(corner, other) != NONE;
        }

        private boolean canFlip(int corner, int other) {
            return areNeighbours(corner, other) && !areNeighbours(thirdOf(corner, other), thirdOf(other, corner));
        }

        private int flipEdge(int a, int b) {
            int c = thirdOf(a, b);
            int d = thirdOf(b, a);
            int former = faceWith(a, b);
            int latter = faceWith(b, a);
            if (former == NONE || latter == NONE) {
                return NONE;
            }
            putThird(a, b, NONE);
            putThird(b, a, NONE);
            putFace(former, a, d, c);
            putFace(latter, d, b, c);
            return 100 * Math.min(c, d) + Math.max(c, d);
        }

        /** The face in which the other one is named behind the corner; NONE if there is none. */
        private int faceWith(int corner, int other) {
            for (int spot = 0; spot < 3 * faceCount; spot++) {
                int behind = spot % 3 == 2 ? spot - 2 : spot + 1;
                if (named[spot] == corner && named[behind] == other) {
                    return spot / 3;
                }
            }
            return NONE;
        }

        private int neighbourAt(int corner, int place) {
            // No corner has so many neighbours; so the way around ends soon, however great the place is.
            if (place >= MOST_CORNERS) {
                return NONE;
            }
            int lowest = lowestNeighbour(corner);
            int found = lowest;
            for (int step = 0; step < place; step++) {
                found = thirdOf(corner, found);
                if (found == lowest || found == NONE) {
                    return NONE;
                }
            }
            return found;
        }

        private int lowestNeighbour(int corner) {
            for (int other = 0; other < cornerCount; other++) {
                if (areNeighbours(corner, other)) {
                    return other;
                }
            }
            return NONE;
        }

        private int edgeCount() {
            // Each face has three edges, and each edge lies in two faces.
            return 3 * faceCount / 2;
        }

        private int flippableCount() {
            int found = 0;
            for (int other = 1; other < cornerCount; other++) {
                for (int corner = 0; corner < other; corner++) {
                    if (canFlip(corner, other)) {
                        found++;
                    }
                }
            }
            return found;
        }

        private int mostNeighbours() {
            int most = 0;
            for (int corner = 0; corner < cornerCount; corner++) {
                most = Math.max(most, facesAt(corner));
            }
            return most;
        }

        /** As many faces as neighbours are around a corner. */
        private int facesAt(int corner) {
            int found = 0;
            for (int spot = 0; spot < 3 * faceCount; spot++) {
                if (named[spot] == corner) {
                    found++;
                }
            }
            return found;
        }
    }

    /** A disk; its numbers are long, for their squares are. */
    private static final class Disk {
        private final long x;
        private final long y;
        private final long radius;

        private Disk(long x, long y, long radius) {
            this.x = x;
            this.y = y;
            this.radius = radius;
        }

        private int howItLies(Disk other) {
            long wide = x - other.x;
            long high = y - other.y;
            long reach = radius + other.radius;
            long distance = wide * wide + high * high;
            if (distance == reach * reach) {
                return TOUCH;
            }
            return distance > reach * reach ? APART : OVERLAP;
        }
    }

    /** Four curvatures, and the root, which no turn changes, from its least one on. */
    private static final class Gasket {
        private static final int MOST_STEPS = 1000000;
        // A row of turns from the root that stays below 1000 has less than 40, for the curvatures grow as squares do.
        private static final int MOST_DEPTH = 100;

        private final long[] four;
        private final long[] least;
        private final long[] walked;

        private Gasket(long a, long b, long c, long d) {
            four = rowOf(a, b, c, d);
            least = rootOf(a, b, c, d);
            walked = new long[4];
        }

        private static long[] rowOf(long a, long b, long c, long d) {
            long[] row = new long[4];
            row[0] = a;
            row[1] = b;
            row[2] = c;
            row[3] = d;
            return row;
        }

        private static long[] rootOf(long a, long b, long c, long d) {
            long[] row = rowOf(a, b, c, d);
            bringToRoot(row);
            putInOrder(row);
            return row;
        }

        private static boolean areOfGasket(long a, long b, long c, long d) {
            long sum = a + b + c + d;
            return sum > 0 && sum * sum == 2 * (a * a + b * b + c * c + d * d);
        }

        private static long turnedAt(long[] row, int place) {
            long others = row[0] + row[1] + row[2] + row[3] - row[place];
            return 2 * others - row[place];
        }

        private static void bringToRoot(long[] row) {
            for (int step = 0; step < MOST_STEPS; step++) {
                int place = greatestPlace(row);
                long turned = turnedAt(row, place);
                if (turned >= row[place]) {
                    return;
                }
                row[place] = turned;
            }
        }

        private static int greatestPlace(long[] row) {
            int found = 0;
            for (int place = 1; place < 4; place++) {
                if (row[place] > row[found]) {
                    found = place;
                }
            }
            return found;
        }

        private static void putInOrder(long[] row) {
            for (int end = 3; end > 0; end--) {
                for (int place = 0; place < end; place++) {
                    if (row[place] > row[place + 1]) {
                        long kept = row[place];
                        row[place] = row[place + 1];
                        row[place + 1] = kept;
                    }
                }
            }
        }

        private int circlesByTurns(int bound) {
            System.arraycopy(least, 0, walked, 0, 4);
            return circlesOfRoot(bound) + circlesOfRows(walked, NONE, bound, 0);
        }

        private int circlesOfRoot(int bound) {
            int found = 0;
            for (int rank = 0; rank < 4; rank++) {
                if (least[rank] <= bound) {
                    found++;
                }
            }
            return found;
        }

        /** Counts the rows of turns that go on from here; none that is above the bound comes below it again. */
        private static int circlesOfRows(long[] row, int last, int bound, int depth) {
            if (depth >= MOST_DEPTH) {
                return 0;
            }
            int found = 0;
            for (int place = 0; place < 4; place++) {
                long before = row[place];
                long turned = turnedAt(row, place);
                if (place != last && turned <= bound) {
                    row[place] = turned;
                    found += 1 + circlesOfRows(row, place, bound, depth + 1);
                    row[place] = before;
                }
            }
            return found;
        }

        private int circlesByThrees(int bound) {
            return circlesOfRoot(bound)
                    + circlesAmong(least[0], least[1], least[2], bound, 0)
                    + circlesAmong(least[0], least[1], least[3], bound, 0)
                    + circlesAmong(least[0], least[2], least[3], bound, 0)
                    + circlesAmong(least[1], least[2], least[3], bound, 0);
        }

        private static int circlesAmong(long a, long b, long c, int bound, int depth) {
            long inner = a + b + c + 2 * wholeRoot(a * b + b * c + c * a);
            if (inner > bound || depth >= MOST_DEPTH) {
                return 0;
            }
            return 1 + circlesAmong(a, b, inner, bound, depth + 1)
                    + circlesAmong(b, c, inner, bound, depth + 1)
                    + circlesAmong(c, a, inner, bound, depth + 1);
        }

        /** The root of a square below 2 to the 62nd. */
        private static long wholeRoot(long square) {
            long found = 0;
            for (int bit = (64 - Long.numberOfLeadingZeros(square)) / 2; bit >= 0; bit--) {
                long tried = found + (1L << bit);
                if (tried * tried <= square) {
                    found = tried;
                }
            }
            return found;
        }
    }

    /** Walks all fours of remainders that turns bring; a four is a code of three bits a place, its bits are kept. */
    private static final class RemainderWalk {
        private static final int ALL_CODES = 4096;

        private final long[] seen;
        private final long[] waiting;

        private RemainderWalk() {
            seen = new long[ALL_CODES / 64];
            waiting = new long[ALL_CODES / 64];
        }

        private int allReached(long[] four, int by) {
            Arrays.fill(seen, 0L);
            Arrays.fill(waiting, 0L);
            noteCode(codeOf(four, by));
            int found = 0;
            for (int step = 0; step < ALL_CODES; step++) {
                int code = takeWaiting();
                if (code == NONE) {
                    return found;
                }
                for (int place = 0; place < 4; place++) {
                    found |= 1 << remainderAt(code, place);
                    noteCode(turnedCode(code, place, by));
                }
            }
            return found;
        }

        private static int codeOf(long[] four, int by) {
            int code = 0;
            for (int place = 0; place < 4; place++) {
                code |= (int) Math.floorMod(four[place], (long) by) << 3 * place;
            }
            return code;
        }

        private static int remainderAt(int code, int place) {
            return code >> 3 * place & 7;
        }

        private static int turnedCode(int code, int place, int by) {
            int others = 0;
            for (int at = 0; at < 4; at++) {
                others += at == place ? 0 : remainderAt(code, at);
            }
            int turned = Math.floorMod(2 * others - remainderAt(code, place), by);
            return code & ~(7 << 3 * place) | turned << 3 * place;
        }

        private void noteCode(int code) {
            long bit = 1L << (code & 63);
            if ((seen[code >> 6] & bit) == 0) {
                seen[code >> 6] |= bit;
                waiting[code >> 6] |= bit;
            }
        }

        private int takeWaiting() {
            for (int at = 0; at < waiting.length; at++) {
                if (waiting[at] != 0) {
                    int code = 64 * at + Long.numberOfTrailingZeros(waiting[at]);
                    waiting[at] &= waiting[at] - 1;
                    return code;
                }
            }
            return NONE;
        }
    }

    /** Reckons with fractions of whole numbers up to a billion. */
    private static final class Fractions {
        // Euclid's steps from a billion are less than 50.
        private static final int MOST_STEPS = 1000;

        private Fractions() {
        }

        private static boolean isLowest(long p, long q) {
            long a = Math.abs(p);
            long b = q;
            for (int step = 0; step < MOST_STEPS && b != 0; step++) {
                long rest = a % b;
                a = b;
                b = rest;
            }
            return a == 1;
        }

        /** Below 0 if p / q is below r / s, 0 if they are alike. */
        private static long crossed(long p, long q, long r, long s) {
            return p * s - r * q;
        }

        /** What of all between p / q and the higher r / s has the least bottom, by the terms of its chain. */
        private static long simplest(long p, long q, long r, long s, boolean isTop) {
            long lowTop = p;
            long lowBottom = q;
            long highTop = r;
            // 0 stands for a high end that is beyond all.
            long highBottom = s;
            long top = 1;
            long topBefore = 0;
            long bottom = 0;
            long bottomBefore = 1;
            boolean isFound = false;
            for (int step = 0; step < MOST_STEPS && !isFound && lowBottom > 0; step++) {
                long whole = Math.floorDiv(lowTop, lowBottom);
                isFound = (whole + 1) * highBottom < highTop;
                long term = isFound ? whole + 1 : whole;
                long topNext = term * top + topBefore;
                topBefore = top;
                top = topNext;
                long bottomNext = term * bottom + bottomBefore;
                bottomBefore = bottom;
                bottom = bottomNext;
                long lowRest = lowTop - whole * lowBottom;
                long highRest = highTop - whole * highBottom;
                highTop = lowBottom;
                lowTop = highBottom;
                highBottom = lowRest;
                lowBottom = highRest;
            }
            return isTop ? top : bottom;
        }
    }

    /** A table of two rows, a, b and c, d: a move, or the word. */
    private static final class Table {
        private final long a;
        private final long b;
        private final long c;
        private final long d;

        private Table(long a, long b, long c, long d) {
            this.a = a;
            this.b = b;
            this.c = c;
            this.d = d;
        }

        private Table undone() {
            return new Table(d, -b, -c, a);
        }

        private Table times(Table other) {
            return new Table(a * other.a + b * other.c, a * other.b + b * other.d,
                    c * other.a + d * other.c, c * other.b + d * other.d);
        }

        private boolean isWhollyWithin(long most) {
            return isWithin(a, most) && isWithin(b, most) && isWithin(c, most) && isWithin(d, most);
        }

        private long trace() {
            return a + d;
        }

        private int kind() {
            if (b == 0 && c == 0 && a == d) {
                return 0;
            }
            long size = Math.abs(trace());
            if (size <= 1) {
                return 1;
            }
            return size == 2 ? 2 : 3;
        }
    }

    private static final class Wire {
        private final int first;
        private final int second;

        private Wire(int first, int second) {
            this.first = first;
            this.second = second;
        }
    }

    /** Nodes and wires; trees and heights come of the table of the wires with one node, the ground, left out. */
    private static final class Network {
        private final ArrayList<Wire> wires;
        private final long[][] rows;
        private int nodeCount;

        private Network() {
            wires = new ArrayList<Wire>();
            rows = new long[MOST_NODES - 1][MOST_NODES - 1];
            nodeCount = 2;
        }

        private int beginAnew(int many) {
            int before = nodeCount;
            nodeCount = many;
            wires.clear();
            return before;
        }

        private boolean hasNode(int node) {
            return node >= 0 && node < nodeCount;
        }

        private boolean hasWire(int wire) {
            return wire >= 0 && wire < wires.size();
        }

        private long treesByTable() {
            fillTable(0);
            return determinant(nodeCount - 1);
        }

        private void fillTable(int ground) {
            for (int row = 0; row < nodeCount - 1; row++) {
                Arrays.fill(rows[row], 0L);
            }
            for (int wire = 0; wire < wires.size(); wire++) {
                int first = lineOf(wires.get(wire).first, ground);
                int second = lineOf(wires.get(wire).second, ground);
                addToTable(first, first, 1);
                addToTable(second, second, 1);
                addToTable(first, second, -1);
                addToTable(second, first, -1);
            }
        }

        /** The line of a node in the table; NONE for the ground. */
        private static int lineOf(int node, int ground) {
            if (node == ground) {
                return NONE;
            }
            return node < ground ? node : node - 1;
        }

        private void addToTable(int row, int column, long much) {
            if (row != NONE && column != NONE) {
                rows[row][column] += much;
            }
        }

        /** By steps of which each divides without rest by the pivot before. */
        private long determinant(int size) {
            long pivotBefore = 1;
            long sign = 1;
            for (int step = 0; step < size; step++) {
                int row = pivotRow(step, size);
                if (row == NONE) {
                    return 0;
                }
                if (row != step) {
                    swapRows(row, step);
                    sign = -sign;
                }
                reduceBelow(step, size, pivotBefore);
                pivotBefore = rows[step][step];
            }
            return sign * pivotBefore;
        }

        private int pivotRow(int step, int size) {
            for (int row = step; row < size; row++) {
                if (rows[row][step] != 0) {
                    return row;
                }
            }
            return NONE;
        }

        private void swapRows(int row, int other) {
            long[] kept = rows[row];
            rows[row] = rows[other];
            rows[other] = kept;
        }

        private void reduceBelow(int step, int size, long divisor) {
            if (divisor == 0) {
                return;
            }
            for (int row = step + 1; row < size; row++) {
                for (int column = step + 1; column < size; column++) {
                    long crossed = rows[row][column] * rows[step][step] - rows[row][step] * rows[step][column];
                    rows[row][column] = crossed / divisor;
                }
            }
        }

        private int treesBySets() {
            int found = 0;
            for (int set = 0; set < 1 << wires.size(); set++) {
                // All nodes hanging together, none can be left out of as few wires as these.
                if (Integer.bitCount(set) == nodeCount - 1 && hangsTogether(set)) {
                    found++;
                }
            }
            return found;
        }

        private boolean hangsTogether(int set) {
            int reached = 1;
            for (int round = 1; round < nodeCount; round++) {
                for (int wire = 0; wire < wires.size(); wire++) {
                    int ends = 1 << wires.get(wire).first | 1 << wires.get(wire).second;
                    if ((set >> wire & 1) == 1 && (reached & ends) != 0) {
                        reached |= ends;
                    }
                }
            }
            return reached == (1 << nodeCount) - 1;
        }

        /** By Cramer's rule, in which the number of trees is both the divisor and a factor. */
        private long heightOf(int node, int from, int to) {
            int column = lineOf(node, to);
            if (column == NONE) {
                return 0;
            }
            fillTable(to);
            for (int row = 0; row < nodeCount - 1; row++) {
                rows[row][column] = row == lineOf(from, to) ? 1 : 0;
            }
            return determinant(nodeCount - 1);
        }

        private long fallAlong(int wire, int from, int to) {
            if (!hasWire(wire)) {
                return 0;
            }
            Wire asked = wires.get(wire);
            return heightOf(asked.first, from, to) - heightOf(asked.second, from, to);
        }
    }
}
