import java.lang.management.ManagementFactory;

// All calls of a run share one room of 7.3 million fields and elements: 512 of the dearest calls must stay far below.
public final class BudgetTest extends Check {
    private static final int CALLS = 512;
    // A field or an element is at most 8 bytes; a tenth of the room is plenty for this class.
    private static final long MAX_BYTES = 8L * 730_000;

    private static int wrong = 0;

    private interface Call {
        long answer(StepPaths x, int i);
    }

    private static long bytes() {
        return ((com.sun.management.ThreadMXBean) ManagementFactory.getThreadMXBean())
                .getThreadAllocatedBytes(Thread.currentThread().getId());
    }

    private static StepPaths fullObject() {
        return graph(wideGraph(), "(.?a?A?b?B?c?C?.?d*a?A?b?B?c?C?.?a?A?D)+");
    }

    private static void dear(String name, Call call) {
        call.answer(fullObject(), 0);
        long before = bytes();
        StepPaths x = fullObject();
        for (int i = 0; i < CALLS; i++) {
            call.answer(x, i);
        }
        long used = bytes() - before;
        System.out.println(name + ": " + used + " bytes in " + CALLS + " calls");
        if (used > MAX_BYTES) {
            wrong++;
            System.out.println(name + ": more than the " + MAX_BYTES + " bytes that it should need");
        }
    }

    public static void main(String[] args) {
        dear("take", (x, i) -> x.take());
        dear("errorPosition", (x, i) -> x.errorPosition(i % 2 == 0));
        dear("load", (x, i) -> {
            if (i == 0) {
                write(x, wideGraph());
            }
            return x.load();
        });
        dear("about", (x, i) -> x.about(7));
        dear("exchange", (x, i) -> x.exchange(i % 4, i / 4 % 4));
        dear("save and restore", (x, i) -> i % 2 == 0 ? x.save(0) : x.restore(0));
        dear("cost", (x, i) -> x.cost(i % 8, i / 8 % 8));
        dear("pathAt", (x, i) -> x.pathAt(i % 8, i / 8 % 8, i % 20));
        dear("paths", (x, i) -> x.paths(i % 8, i / 8 % 8, 4));
        dear("needed", (x, i) -> x.needed(i % 8, i / 8 % 8));
        dear("bestNew", (x, i) -> x.bestNew(i % 8, i / 8 % 8));
        dear("follow", (x, i) -> x.follow(0, 5, 10_000_010_000L * (i % 24)));
        dear("runScript", (x, i) -> x.runScript(3, 80008_80008_80008L));
        dear("simulate", (x, i) -> x.simulate(i, 20));
        System.out.println(wrong + " wrong");
        if (wrong != 0) {
            System.exit(1);
        }
    }
}
