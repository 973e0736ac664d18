import java.util.ArrayList;
import java.util.List;
import java.util.function.Function;
import java.util.function.Supplier;
import java.util.function.ToLongFunction;

// "A call that throws an exception changes nothing", and calls that only ask change nothing either: each is made on
// objects that are as full, as empty or as busy as they can be; then everything that can be asked of them is compared
// with what a twin answers that has not had the call.
public final class UnchangedTest extends Check {
    private static final int LEAST = Integer.MIN_VALUE;
    private static final int MOST = Integer.MAX_VALUE;

    private static final List<Call> REFUSED = new ArrayList<>();
    private static final List<Call> ASKING = new ArrayList<>();
    private static final List<Function<StepPaths, String>> QUESTIONS = List.of(UnchangedTest::state, UnchangedTest::paths,
            UnchangedTest::rememberedStates, x -> slot(x, 0), x -> slot(x, 1), UnchangedTest::text, UnchangedTest::taken,
            UnchangedTest::loaded, UnchangedTest::loadedWithOneMore, UnchangedTest::takenWithOneMore);

    private static final class Call {
        final String name;
        final ToLongFunction<StepPaths> call;
        int times = 0;

        Call(String name, ToLongFunction<StepPaths> call) {
            this.name = name;
            this.call = call;
        }
    }

    public static void main(String[] args) {
        callsWithWrongNumbers();
        callsWithWrongPairs();
        callsForTheState();
        callsThatAsk();
        under("a new object");
        compare(StepPaths::new);
        under("a busy object");
        compare(UnchangedTest::busy);
        under("a full object");
        compare(UnchangedTest::full);
        under("a restored object");
        compare(UnchangedTest::restored);
        under("every call above is refused by one of these objects");
        allWereRefused();
        end();
    }

    // ---- the comparison

    private static void compare(Supplier<StepPaths> maker) {
        List<String> before = prints(maker, x -> 0);
        for (Call refused : REFUSED) {
            if (answerOf(() -> refused.call.applyAsLong(maker.get())).startsWith("throws.")) {
                refused.times++;
                same(maker, refused, before);
            }
        }
        for (Call asking : ASKING) {
            same(maker, asking, before);
        }
    }

    private static void same(Supplier<StepPaths> maker, Call one, List<String> before) {
        due("all that can be asked after " + one.name, prints(maker, one.call).toString(), before.toString());
    }

    private static void allWereRefused() {
        for (Call refused : REFUSED) {
            due(refused.name + " was refused", refused.times > 0 ? "once or more" : "never", "once or more");
        }
    }

    // Asking for one thing ends what could be asked of another, so each question has an object of its own;
    // thus none of them is used for more than 512 calls, too.
    private static List<String> prints(Supplier<StepPaths> maker, ToLongFunction<StepPaths> call) {
        List<String> prints = new ArrayList<>();
        for (Function<StepPaths, String> question : QUESTIONS) {
            StepPaths x = maker.get();
            answerOf(() -> call.applyAsLong(x));
            prints.add(question.apply(x));
        }
        return prints;
    }

    private static String state(StepPaths x) {
        StringBuilder print = new StringBuilder();
        for (int what = 0; what < 8; what++) {
            int one = what;
            print.append(answerOf(() -> x.about(one))).append(' ');
        }
        for (int s = 0; s < x.about(1); s++) {
            print.append(x.step(s, 0)).append(x.step(s, 1)).append(x.step(s, 2)).append(x.step(s, 3)).append(' ');
        }
        for (int i = 0; i < x.about(2); i++) {
            print.append((char) x.patternAt(i));
        }
        return print.toString();
    }

    private static String paths(StepPaths x) {
        StringBuilder print = new StringBuilder();
        for (int p = 0; p < x.about(0); p++) {
            print.append(x.person(p, 2)).append(' ').append(x.person(p, 3)).append(' ');
            for (int q = 0; q < x.about(0); q++) {
                print.append(x.cost(p, q)).append(' ');
            }
        }
        return print.toString();
    }

    private static String rememberedStates(StepPaths x) {
        StringBuilder print = new StringBuilder();
        for (int i = 0; i < 20; i++) {
            print.append(answerOf(() -> x.undo())).append(' ').append(x.about(0)).append(' ').append(x.about(1)).append(' ')
                    .append(x.about(2)).append(' ').append(x.about(5)).append(' ').append(x.about(6)).append("; ");
        }
        return print.toString();
    }

    private static String slot(StepPaths x, int slot) {
        return answerOf(() -> x.restore(slot)) + ' ' + state(x);
    }

    private static String text(StepPaths x) {
        return x.errorPosition(true) + " " + x.errorPosition(false) + ' ' + x.clearText();
    }

    private static String taken(StepPaths x) {
        return answerOf(() -> x.take()) + ' ' + state(x);
    }

    private static String loaded(StepPaths x) {
        return answerOf(() -> x.load()) + ' ' + state(x);
    }

    /** A text that lacks but one character of a graph is one with it. */
    private static String loadedWithOneMore(StepPaths x) {
        return answerOf(() -> x.append('2')) + ' ' + loaded(x);
    }

    /** A text that lacks but one character of a pattern is one with it. */
    private static String takenWithOneMore(StepPaths x) {
        return answerOf(() -> x.append(')')) + ' ' + taken(x);
    }

    // ---- the calls

    private static void refused(String name, ToLongFunction<StepPaths> call) {
        REFUSED.add(new Call(name, call));
    }

    private static void callsWithWrongNumbers() {
        for (int c : new int[] {LEAST, -1, 256, MOST}) {
            refused("append " + c, x -> x.append(c));
        }
        for (int what : new int[] {LEAST, -1, 8, MOST}) {
            refused("about " + what, x -> x.about(what));
            refused("step 0 " + what, x -> x.step(0, what));
            refused("person 0 " + what, x -> x.person(0, what));
        }
        for (int s : new int[] {LEAST, -1, 24, 25, MOST}) {
            refused("step " + s, x -> x.step(s, 0));
            refused("removeStep " + s, x -> x.removeStep(s));
            refused("setCost " + s, x -> x.setCost(s, 5));
            refused("turn " + s, x -> x.turn(s));
        }
        for (int cost : new int[] {LEAST, -1, 0, 10, MOST}) {
            refused("setCost 0 " + cost, x -> x.setCost(0, cost));
            refused("addStep of the cost " + cost, x -> x.addStep(0, 3, 1, cost));
        }
        for (int k : new int[] {LEAST, -1, 4, MOST}) {
            refused("addStep of the kind " + k, x -> x.addStep(0, k, 1, 1));
            refused("find of the kind " + k, x -> x.find(0, k, 1));
            refused("exchange " + k + " 0", x -> x.exchange(k, 0));
            refused("exchange 0 " + k, x -> x.exchange(0, k));
        }
        for (int i : new int[] {LEAST, -1}) {
            refused("patternAt " + i, x -> x.patternAt(i));
            refused("pathAt 0 0 " + i, x -> x.pathAt(0, 0, i));
        }
        for (int n : new int[] {LEAST, -1, 0, 6, MOST}) {
            refused("paths with " + n, x -> x.paths(0, 0, n == 0 ? 5 : n));
            refused("follow with " + n, x -> x.follow(0, n, 0L));
            refused("runScript with " + n, x -> x.runScript(n == 6 ? 4 : n, 20000L));
            refused("simulate with " + n, x -> x.simulate(1L, n == 6 ? 21 : n));
        }
        for (long number : new long[] {Long.MIN_VALUE, -1, 100_000, Long.MAX_VALUE}) {
            refused("follow the row " + number, x -> x.follow(0, 1, number));
            refused("runScript of " + number, x -> x.runScript(1, number));
        }
        for (int slot : new int[] {LEAST, -1, 2, MOST}) {
            refused("save " + slot, x -> x.save(slot));
            refused("restore " + slot, x -> x.restore(slot));
        }
    }

    private static void callsWithWrongPairs() {
        for (int p : new int[] {LEAST, -1, 8, 9, MOST}) {
            refused("person " + p, x -> x.person(p, 2));
            refused("follow from " + p, x -> x.follow(p, 1, 0L));
            pair(p, 0);
            pair(0, p);
        }
        refused("addStep from 0 to itself", x -> x.addStep(0, 0, 0, 1));
        refused("find from 0 to itself", x -> x.find(0, 0, 0));
    }

    private static void pair(int p, int q) {
        String people = " " + p + " " + q;
        refused("addStep" + people, x -> x.addStep(p, 0, q, 1));
        refused("find" + people, x -> x.find(p, 0, q));
        refused("cost" + people, x -> x.cost(p, q));
        refused("length" + people, x -> x.length(p, q));
        refused("pathAt" + people, x -> x.pathAt(p, q, 0));
        refused("paths" + people, x -> x.paths(p, q, 1));
        refused("needed" + people, x -> x.needed(p, q));
        refused("bestNew" + people, x -> x.bestNew(p, q));
    }

    private static void callsForTheState() {
        refused("append to a full text", x -> x.append('a'));
        refused("load of no graph", x -> x.load());
        refused("addPerson to eight", x -> x.addPerson());
        refused("addStep that is there", x -> x.addStep(0, 0, 1, 9));
        refused("addStep to 24", x -> x.addStep(6, 3, 7, 1));
        refused("turn to where one leads", x -> x.turn(0));
        refused("turn of the last to where one leads", x -> x.turn(23));
        refused("take of no pattern", x -> x.take());
        refused("undo of nothing", x -> x.undo());
        refused("restore of an empty slot 0", x -> x.restore(0));
        refused("restore of an empty slot 1", x -> x.restore(1));
    }

    private static void asking(String name, ToLongFunction<StepPaths> call) {
        ASKING.add(new Call(name, call));
    }

    private static void callsThatAsk() {
        asking("errorPosition of a pattern", x -> x.errorPosition(true));
        asking("errorPosition of a graph", x -> x.errorPosition(false));
        asking("step", x -> x.step(0, 0));
        asking("find", x -> x.find(0, 0, 1));
        asking("patternAt", x -> x.patternAt(0));
        for (int number = 0; number < 8; number++) {
            int what = number;
            asking("about " + what, x -> x.about(what));
        }
        for (int other = 0; other < 4; other++) {
            int q = other;
            asking("person 0 " + q, x -> x.person(0, q));
            asking("cost 0 " + q, x -> x.cost(0, q));
            asking("length 0 " + q, x -> x.length(0, q));
            asking("pathAt 0 " + q, x -> x.pathAt(0, q, 0));
            asking("paths 0 " + q, x -> x.paths(0, q, q));
            asking("needed 0 " + q, x -> x.needed(0, q));
            asking("bestNew 0 " + q, x -> x.bestNew(0, q));
            asking("follow 0 " + q, x -> x.follow(0, 1, 10L * q));
        }
        asking("simulate", x -> x.simulate(7L, 20));
        long[] scripts = {20000_20000_20000L, 11019_30109_40400L, 50100_50200_50300L, 60199_70109_80000L, 90001_90102_90203L};
        for (long script : scripts) {
            asking("runScript " + script, x -> x.runScript(3, script));
        }
    }

    // ---- the objects

    /** Four people, six steps, five remembered states, one filled slot, a graph's beginning as the text. */
    private static StepPaths busy() {
        StepPaths x = ring("a*b?|B");
        x.addStep(1, 0, 0, 3);
        x.save(1);
        x.setCost(4, 2);
        x.exchange(1, 2);
        x.turn(2);
        write(x, "K30a110b110a2");
        return x;
    }

    /** All that there can be: 8 people, 24 steps, 14 remembered states, both slots filled, 110 characters. */
    private static StepPaths full() {
        StepPaths x = graph("K8" + fullGraph().substring(2), "a?".repeat(20));
        x.save(0);
        for (int s = 0; s < 16; s++) {
            x.setCost(s, 2 + s % 8);
            if (s == 7) {
                x.save(1);
            }
        }
        write(x, (wideGraph() + "7d0123456789").substring(0, 110));
        return x;
    }

    /** Nothing is remembered, slot 1 is empty, the text is a pattern's beginning. */
    private static StepPaths restored() {
        StepPaths x = ring("a*");
        x.addPerson();
        x.save(0);
        x.removeStep(1);
        x.restore(0);
        write(x, "(a*|b");
        return x;
    }
}
