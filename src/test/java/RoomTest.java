import java.lang.management.ManagementFactory;

/** All calls of one run live in one room: the dearest call, made as often as can be, must leave most of it free. */
public final class RoomTest {
    private static final Check check = new Check();

    // What full() needs and these are not more than the 512 for which an object is used.
    private static final int CALLS = 460;

    // An object takes 16 bytes at the least, an element one: this is at most 437,500 objects of the 600,000
    // that the room has, and 7 million elements of its 7.3 million.
    private static final long MOST_BYTES = 7_000_000;

    private interface Call {
        long answer(Orderbench bench, int k);
    }

    public static void main(String[] args) {
        stays("digest", (x, k) -> x.digest());
        stays("isSound", (x, k) -> x.isSound() ? 1 : 0);
        stays("text", (x, k) -> x.text(k % 2).length());
        stays("shape", (x, k) -> x.shape(k % 10).length());
        stays("sort", (x, k) -> x.sort(k % 2, k % 10));
        stays("isTwice", (x, k) -> x.isTwice(k % 2, k % 10, 7) ? 1 : 0);
        stays("isPreorder", (x, k) -> x.isPreorder(k % 10, k % 2) ? 1 : 0);
        stays("fill", (x, k) -> k % 2 == 0 ? x.clear(0) : x.fill(0, 16, 99, 99));
        stays("turn", (x, k) -> x.turn(0, 1));
        check.finish("RoomTest");
    }

    private static Orderbench full() {
        Orderbench x = Check.fresh();
        x.fill(0, 16, 3, 7);
        x.fill(1, 16, 1, 9);
        Check.make(x, 0, "n".concat("[~]".repeat(10)));
        for (int order = 1; order < 10; order++) {
            x.keep(order, 0);
        }
        return x;
    }

    private static void stays(String call, Call toMake) {
        toMake.answer(full(), 0);
        Orderbench bench = full();
        com.sun.management.ThreadMXBean threads =
                (com.sun.management.ThreadMXBean) ManagementFactory.getThreadMXBean();
        long me = Thread.currentThread().getId();
        long before = threads.getThreadAllocatedBytes(me);
        long sum = 0;
        for (int k = 0; k < CALLS; k++) {
            sum += toMake.answer(bench, k);
        }
        long made = threads.getThreadAllocatedBytes(me) - before;
        System.out.println(call + ": " + made + " bytes in " + CALLS + " calls (answers' sum " + sum + ")");
        check.due(call + " stays in the room", true, made < MOST_BYTES);
    }
}
