import java.lang.management.ManagementFactory;
import java.util.function.LongSupplier;

/** What one run makes: all of its calls live in one room, so no call but a few may make anything. */
public final class RoomTest {
    private static final com.sun.management.ThreadMXBean THREADS =
        (com.sun.management.ThreadMXBean) ManagementFactory.getThreadMXBean();

    public static void main(String[] args) {
        ThinLine x = new ThinLine();
        run(x);
        long before = made();
        ThinLine y = new ThinLine();
        long afterNew = made();
        run(y);
        long afterRun = made();
        System.out.println("a new object: " + (afterNew - before) + " bytes, a full one: " + (afterRun - before) + " bytes");
        Due.due("a new object is small", afterNew - before < 200_000, true);
        Due.due("a full object is small", afterRun - before < 600_000, true);
        dear(y);
        ending();
        Due.end();
    }

    private static long made() {
        return THREADS.getThreadAllocatedBytes(Thread.currentThread().getId());
    }

    /** Fills an object with as much as it takes. */
    private static void run(ThinLine x) {
        for (int i = 0; i < 6; i++) Due.law(x, "shine 1000; noise 50; ripple 7 30; eats 0 100");
        for (int i = 0; i < 8; i++) Due.curve(x, "bends 40; wide 50; gap " + (100 + i) + " 150; skip colour = 3 or colour = 290");
        for (int i = 0; i < 8; i++) Due.way(x, "gives light if 1 < 2");
        for (int i = 0; i < 24; i++) x.make(0, x.row(i % 4, i % 3), i, 0, 299);
        for (int i = 0; i < 40; i++) x.slip(i % 4, i, 299 - i, i);
        for (int i = 0; i < 60; i++) x.line(i % 12, 100 + i, 1 + i);
        for (int i = 0; i < 8; i++) x.house(i, 100, 15);
        for (int i = 0; i < 10; i++) x.candidate(i % 4, 1 + i);
        for (int i = 0; i < 4; i++) x.image(i);
    }

    private static void free(String call, LongSupplier asked) {
        // the machine itself makes something now and then; what the call makes it makes each time
        long least = Long.MAX_VALUE;
        for (int turn = 0; turn < 5; turn++) {
            long before = made();
            for (int i = 0; i < 20; i++) asked.getAsLong();
            least = Math.min(least, made() - before);
        }
        Due.due(call + " makes nothing, but bytes:", least, 0);
    }

    private static void dear(ThinLine x) {
        free("curve", () -> x.curve(0, 0, 0, 2));
        free("deep", () -> x.deep(0, 0, 2));
        free("moved", () -> x.moved(0, 0, 7));
        free("elsewhere", () -> x.elsewhere(0, 0, 1));
        free("drawn", () -> x.drawn(0, 0, 0, 1, 50));
        free("bent", () -> x.bent(0, 0, 1));
        free("best", () -> x.best(0, 0, 1, 1));
        free("taken", () -> x.taken(0, 0, 1, 1));
        free("apart", () -> x.apart(0, 1, 1));
        free("stuff", () -> x.stuff(0, 0, 1, 3));
        free("likeliest", () -> x.likeliest(0, 0));
        free("together", () -> x.together(0, 15, 399, 0));
        free("hour", () -> x.hour(0, 399, 1));
        free("weeks", () -> x.weeks(0, 0, 99, 1, 1, 1));
        free("ripple", () -> x.ripple(0, 0, 1));
        free("smooth", () -> x.smooth(0, 0));
        free("weightiest", () -> x.weightiest(0, 0));
        free("deepest", () -> x.deepest(0, 0, 1));
        free("agreed", () -> x.agreed(399));
        free("alone", () -> x.alone(399));
        free("odd", () -> x.odd(0, 0));
        free("next", () -> x.next(0, 999, 1));
        free("fewest", () -> x.fewest(5, 1));
        free("make", () -> x.make(0, 0, 1, 0, 299));
        free("image", () -> x.image(1));
        free("back", () -> x.back(1));
        free("text with a fault", () -> x.text(3));
    }

    /** Texts with a FAULT, one after the other, make nothing that is kept. */
    private static void ending() {
        ThinLine x = new ThinLine();
        free("a fault", () -> {
            x.feed(0x73686966, 0, 0, 0, 0);
            return x.text(0);
        });
    }
}
