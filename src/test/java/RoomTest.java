import java.lang.management.ManagementFactory;

/** What a run of 512 calls may put into the one room: 512 of the dearest calls are far below it. */
public final class RoomTest {
    private static final Check CHECK = new Check("RoomTest");
    private static final int CALLS = 512;
    /** A small part of 7.3 million elements of 4 bytes. */
    private static final long MOST_BYTES = 2_000_000;

    public static void main(String[] args) {
        Butterflyworks x = new Butterflyworks();
        for (int length = 2; length <= 64; length++) {
            for (int a = 2; a <= 32; a++) {
                int n = length;
                int told = a;
                Check.outcome(() -> x.set(n, 'c', told));
            }
            int n = length;
            Check.outcome(() -> x.set(n, 'r', 0));
        }
        for (int i = 0; i < 64; i++) {
            x.type(i);
        }
        for (int i = 0; i < 24; i++) {
            x.digit(false, 9);
            x.digit(true, 9);
        }
        x.keep();
        for (int i = 2; i <= 16; i++) {
            x.measure(i, 'd', 0, 100000 / i / 2);
        }
        dear("search", () -> x.search(4, 60));
        dear("searchMeasured", () -> x.searchMeasured(4, 60));
        dear("ways", () -> x.ways(4, 64));
        dear("set", () -> x.set(64, 'c', 8));
        dear("done", () -> x.done(4, true));
        dear("plain", () -> x.plain(4, true));
        dear("grid", () -> x.grid(4, 8));
        dear("around", () -> x.around(4));
        dear("fixed", () -> x.fixed());
        dear("multiply", () -> x.multiply());
        dear("step", () -> x.step(8, 83, 'o') + x.out(7, 0));
        dear("isSound", () -> x.isSound());
        dear("node", () -> x.node(64, 2, 'n'));
        dear("measure", () -> x.measure(64, 'b', 0, 1));
        dear("cycles", () -> x.cycles(8, 8));
        CHECK.end();
    }

    private static void dear(String name, Check.Call call) {
        com.sun.management.ThreadMXBean threads = (com.sun.management.ThreadMXBean) ManagementFactory.getThreadMXBean();
        long self = Thread.currentThread().getId();
        long before = threads.getThreadAllocatedBytes(self);
        for (int i = 0; i < CALLS; i++) {
            call.answer();
        }
        long used = threads.getThreadAllocatedBytes(self) - before;
        CHECK.isTrue(name + " used " + used + " bytes", used < MOST_BYTES);
    }
}
