import java.lang.management.ManagementFactory;
import java.util.function.IntConsumer;

/** All calls of one run live in one room: what a call makes would stay there. */
final class RoomTests {
    private static final int CALLS = 500;
    // Room for what the measuring itself makes; one row of ten a call would already be more.
    private static final long SPARE_BYTES = 8 * CALLS;

    private RoomTests() {
    }

    static void runAll() {
        Checks.run("calls make no objects", RoomTests::noObjects);
    }

    private static void noObjects() {
        PlacardWalkers x = Towns.of("WwAwBwCwDwEwFwGwHwIwJx09x18x27s2001201s2001191s2001181s2001171m1r3t30");
        quiet("append", i -> {
            x.clearText();
            x.append('W');
        });
        Towns.write(x, "WwAwBwCwDwEwFwGwHwIwJx09x18x27s2001201s2001191s2001181s2001171m1r3t30");
        quiet("load", i -> x.load());
        quiet("about", i -> x.about(i % 13));
        quiet("walkerOf", i -> x.walkerOf(i % 10, i % 6));
        quiet("streetOf", i -> x.streetOf(i % 4, i % 10));
        quiet("letter", i -> x.letter(i % 10, i % 26));
        quiet("exchange", i -> x.exchange(i % 9, 9));
        quiet("set", i -> x.set(i % 2, i % 2));
        quiet("ticks and undo", i -> {
            x.ticks(99);
            x.undo();
        });
        quiet("back", i -> x.back());
        quiet("allIn", i -> x.allIn());
        quiet("later", i -> x.later(500, 3 + i % 8));
        quiet("bestRule", i -> x.bestRule());
        quiet("bestShift", i -> x.bestShift(i % 4));
        quiet("bestExchange", i -> x.bestExchange(i % 3));
        quiet("runScript", i -> x.runScript(3, 100099_201000_500000L));
        quiet("simulate", i -> x.simulate(i, 60));
        quiet("save", i -> x.save(i % 2));
        quiet("restore", i -> x.restore(i % 2));
    }

    private static void quiet(String name, IntConsumer call) {
        com.sun.management.ThreadMXBean bean = (com.sun.management.ThreadMXBean) ManagementFactory.getThreadMXBean();
        long thread = Thread.currentThread().getId();
        call.accept(0);
        long before = bean.getThreadAllocatedBytes(thread);
        for (int i = 0; i < CALLS; i++) {
            call.accept(i);
        }
        long made = bean.getThreadAllocatedBytes(thread) - before;
        if (made > SPARE_BYTES) {
            Checks.fail(CALLS + " calls of " + name + " made " + made + " bytes");
        }
    }
}
