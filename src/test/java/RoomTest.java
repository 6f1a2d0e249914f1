import java.lang.management.ManagementFactory;

/** All calls of one run live in one room, so even the dearest ones may make but a few small objects each. */
public final class RoomTest {
    private static final com.sun.management.ThreadMXBean BEAN =
            (com.sun.management.ThreadMXBean) ManagementFactory.getThreadMXBean();
    // What is left of 512 calls when all has been told.
    private static final int CALLS = 512 - 41;
    // Two tables of four numbers, as an append makes, are some hundred bytes.
    private static final long MOST_A_CALL = 120;

    private interface Asked {
        long answer(Koebehall x, int call);
    }

    public static void main(String[] args) {
        dear("net", (x, call) -> x.net(call % 5));
        dear("around", (x, call) -> x.around(0, call % 20));
        dear("move", (x, call) -> x.move(0, call, call, 1 + call));
        dear("pairs", (x, call) -> x.pairs(call % 3));
        dear("draws", (x, call) -> x.draws() ? 1 : 0);
        dear("turn", (x, call) -> x.turn(0, 0));
        dear("root", (x, call) -> x.root(0, call % 4));
        dear("count", (x, call) -> x.count(0, 1000));
        dear("countAnew", (x, call) -> x.countAnew(0, 1000));
        dear("remainders", (x, call) -> x.remainders(0, 2 + call % 7));
        dear("between", (x, call) -> x.between(433494437, 701408733, 267914296, 433494437, true));
        dear("append", (x, call) -> x.append(0, call % 2 == 1));
        dear("home", (x, call) -> x.home());
        dear("image", (x, call) -> x.image(1000000000, 999999999, true));
        dear("nodes", (x, call) -> x.nodes(6));
        dear("trees", (x, call) -> x.trees());
        dear("treesAnew", (x, call) -> x.treesAnew());
        dear("side", (x, call) -> x.side(0, 1, call % 11 - 1));
        Check.end();
    }

    private static Koebehall hall() {
        Koebehall x = new Koebehall();
        for (int corner = 4; corner < 16; corner++) {
            x.split(0);
        }
        for (int disk = 0; disk < 16; disk++) {
            x.disk(3 * disk, disk * disk, 2);
        }
        x.gasket(-1, 2, 2, 3);
        x.tell(2, 1, 1, 1);
        x.nodes(6);
        for (int wire = 0; wire < 10; wire++) {
            x.wire(wire % 6, (wire + 1 + wire / 6) % 6);
        }
        return x;
    }

    /** The first object is for what the machine itself makes as it runs a call for the first time. */
    private static void dear(String what, Asked asked) {
        bytesOf(asked);
        long used = bytesOf(asked);
        Check.holds(what + " made " + used + " bytes", () -> used <= CALLS * MOST_A_CALL);
    }

    private static long bytesOf(Asked asked) {
        Koebehall x = hall();
        long sum = 0;
        long before = BEAN.getThreadAllocatedBytes(Thread.currentThread().getId());
        for (int call = 0; call < CALLS; call++) {
            sum += asked.answer(x, call);
        }
        long behind = BEAN.getThreadAllocatedBytes(Thread.currentThread().getId());
        // The sum is used, so that no call is left out.
        return behind - before + (sum == Long.MIN_VALUE ? 1 : 0);
    }
}
