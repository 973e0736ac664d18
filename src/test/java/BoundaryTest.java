import java.util.function.IntToLongFunction;

// Promises 1 to 29, one section each: the smallest and the largest of every argument and answer, what lies
// one beyond them, and what is empty, full or there already. UnchangedTest has what a refused call must leave alone.
public final class BoundaryTest extends Check {
    private static final int LEAST = Integer.MIN_VALUE;
    private static final int MOST = Integer.MAX_VALUE;

    public static void main(String[] args) {
        newObject();
        append();
        clearText();
        errorPosition();
        load();
        about();
        aboutPaths();
        step();
        person();
        find();
        patternAt();
        addPerson();
        addStep();
        removeStep();
        setCost();
        turn();
        exchange();
        take();
        undo();
        cost();
        costsOneAfterAnother();
        length();
        pathAt();
        paths();
        needed();
        bestNew();
        follow();
        followNumbers();
        runScript();
        scriptsThatChange();
        scriptsForEachStep();
        scriptsThatAsk();
        scriptsOnACopy();
        simulate();
        simulatedDays();
        save();
        restore();
        end();
    }

    /** A call is refused for an argument below the smallest, above the largest, and at the ends of int. */
    private static void bounds(String argument, IntToLongFunction call, int smallest, int largest, String fault) {
        int[] wrongOnes = {LEAST, smallest - 1, largest + 1, MOST};
        for (int value : wrongOnes) {
            due(argument + " " + value, () -> call.applyAsLong(value), fault);
        }
        for (int value : new int[] {smallest, largest}) {
            due(argument + " " + value, answerOf(() -> call.applyAsLong(value)).equals(fault) ? "refused" : "fine", "fine");
        }
    }

    private static void twoPeople(String call, PairCall pairCall) {
        bounds(call + ", first person", p -> pairCall.answer(ring("a*"), p, 1), 0, 3, INDEX);
        bounds(call + ", second person", q -> pairCall.answer(ring("a*"), 1, q), 0, 3, INDEX);
        due(call + " of no people", () -> pairCall.answer(new StepPaths(), 0, 0), INDEX);
        due(call + " of the only one", answerOf(() -> pairCall.answer(graph("K1", ""), 0, 0)).equals(INDEX) ? "refused" : "fine", "fine");
    }

    private interface PairCall {
        long answer(StepPaths x, int p, int q);
    }

    private static void newObject() {
        under("1: Creates a graph without people, with the empty pattern");
        StepPaths x = new StepPaths();
        long[] numbers = {0, 0, 0, 0, 1, 0, 0, NONE};
        for (int what = 0; what < 8; what++) {
            int one = what;
            due("about " + what, () -> x.about(one), numbers[what]);
        }
        due("no person", () -> x.person(0, 0), INDEX);
        due("no step", () -> x.step(0, 0), INDEX);
        due("no character of the pattern", () -> x.patternAt(0), NONE);
        due("the empty text is a pattern", () -> x.errorPosition(true), NONE);
        due("the empty text is no graph", () -> x.errorPosition(false), 0);
        due("nothing to undo", () -> x.undo(), STATE);
        due("slot 0 is empty", () -> x.restore(0), STATE);
        due("slot 1 is empty", () -> x.restore(1), STATE);
        due("no days with pairs", () -> x.simulate(0L, 20), 0);
        due("no script succeeds with a person", () -> x.runScript(1, 80000L), 0);
        due("a script that needs none", () -> x.runScript(1, 50000L), NONE);
        due("its state can be saved", () -> x.save(1), 0);
        due("and restored", () -> x.restore(1), 0);
        due("the empty text", () -> x.clearText(), 0);
        due("the first person", () -> x.addPerson(), 0);
        due("another object has none", () -> new StepPaths().about(0), 0);
        due("NONE", () -> StepPaths.NONE, -9);
    }

    private static void append() {
        under("2: c: character code, 0 to 255");
        bounds("c", c -> new StepPaths().append(c), 0, 255, ARGUMENT);
        due("not taken as another one", () -> new StepPaths().append(256 + 'a'), ARGUMENT);
        due("nor that", () -> new StepPaths().append('a' - 256), ARGUMENT);

        under("2: Returns the new length of the text");
        StepPaths x = new StepPaths();
        for (int length = 1; length <= 110; length++) {
            int want = length;
            due("character " + length, () -> x.append('|'), want);
        }

        under("2: Throws IllegalStateException if the text already has 110 characters");
        due("the 111th", () -> x.append('|'), STATE);
        due("the 111th, the smallest", () -> x.append(0), STATE);
        due("the 111th, the largest", () -> x.append(255), STATE);
        due("the 111th, c is out of range", () -> x.append(256), ARGUMENT);
        due("the 111th, c is negative", () -> x.append(-1), ARGUMENT);
        due("110 stay", () -> x.clearText(), 110);
        due("then there is room again", () -> x.append('|'), 1);
    }

    private static void clearText() {
        under("3: Empties the text buffer. Returns the previous length of the text");
        StepPaths x = new StepPaths();
        due("an empty one", () -> x.clearText(), 0);
        x.append('a');
        due("one character", () -> x.clearText(), 1);
        due("nothing is left", () -> x.clearText(), 0);
        write(x, "a".repeat(110));
        due("a full one", () -> x.clearText(), 110);
        due("an empty text is no graph", () -> x.errorPosition(false), 0);
        due("but a pattern", () -> x.errorPosition(true), NONE);
        due("the first character again", () -> x.append('K'), 1);
        due("the old ones are gone", () -> x.errorPosition(false), 1);
    }

    private static void errorPosition() {
        under("4: NONE if it is a pattern, or a graph");
        due("the empty text as a pattern", () -> text("").errorPosition(true), NONE);
        due("the empty text as a graph", () -> text("").errorPosition(false), 0);
        due("the smallest graph", () -> text("K1").errorPosition(false), NONE);
        due("the smallest graph as a pattern", () -> text("K1").errorPosition(true), 0);
        due("the largest graph", () -> text(wideGraph()).errorPosition(false), NONE);
        due("the longest pattern", () -> text(".?".repeat(20)).errorPosition(true), NONE);
        due("the longest pattern as a graph", () -> text(".?".repeat(20)).errorPosition(false), 0);
        due("a full text as a pattern", () -> text("|".repeat(110)).errorPosition(true), 40);
        due("a full text as a graph", () -> text((wideGraph() + "7d0123456789").substring(0, 110)).errorPosition(false), 98);
        StepPaths x = ring("ab");
        write(x, "K1");
        due("checked", () -> x.errorPosition(false), NONE);
        due("nothing is loaded", () -> x.about(0), 4);
        due("the text is kept", () -> x.clearText(), 2);
    }

    private static void load() {
        under("5: Replaces everything by the graph of the text. Returns the number of steps");
        StepPaths x = graph(wideGraph(), "a*".repeat(20));
        write(x, "K1");
        due("the smallest graph", () -> x.load(), 0);
        due("one person", () -> x.about(0), 1);
        due("no steps", () -> x.about(1), 0);
        due("the empty pattern", () -> x.about(2), 0);
        due("no character of it", () -> x.patternAt(0), NONE);
        write(x, wideGraph());
        due("the largest graph", () -> x.load(), 24);
        due("eight people", () -> x.about(0), 8);
        due("the last step", () -> x.step(23, 0) * 100 + x.step(23, 1) * 10 + x.step(23, 2), 722);

        under("5: Forgets all remembered states and empties both save slots");
        StepPaths y = ring("a");
        for (int i = 0; i < 14; i++) {
            y.addPerson();
            y.undo();
            y.exchange(0, 1);
        }
        y.save(0);
        y.save(1);
        write(y, "K1");
        due("load", () -> y.load(), 0);
        due("nothing to undo", () -> y.undo(), STATE);
        due("slot 0 is empty", () -> y.restore(0), STATE);
        due("slot 1 is empty", () -> y.restore(1), STATE);
        y.save(1);
        due("slot 1 is filled again", () -> y.restore(1), 0);
        due("slot 0 is not", () -> y.restore(0), STATE);

        under("5: Keeps the text");
        due("load again", () -> y.load(), 0);
        due("its length", () -> y.clearText(), 2);

        under("5: Throws IllegalStateException if the text is not a graph");
        String[] others = {"", "K", "K0", "K9", "k1", "a", "K1 ", "K10a1", "K20a1", "K20a10", "K20a110a12", wideGraph() + "7"};
        for (String other : others) {
            due("load " + other, () -> text(other).load(), STATE);
        }
    }

    private static void about() {
        under("6: what: 0 to 7");
        bounds("what", what -> ring("a").about(what), 0, 7, ARGUMENT);

        under("6: the number of people; of steps; the length of the pattern; the number of its signs; the costs of all steps");
        StepPaths least = graph("K1", "");
        StepPaths most = graph(wideGraph(), "a?".repeat(20));
        long[] leastNumbers = {1, 0, 0, 0, 1, 1, 0, 0};
        long[] mostNumbers = {8, 24, 40, 20, 1, 64, 216, 63};
        for (int what = 0; what < 8; what++) {
            int one = what;
            due("the least, about " + what, () -> least.about(one), leastNumbers[what]);
            due("the most, about " + what, () -> most.about(one), mostNumbers[what]);
        }
        due("parentheses are no such signs", () -> graph("K1", "()".repeat(20)).about(3), 0);
        due("nor is an alternative", () -> graph("K1", "|".repeat(40)).about(3), 0);
        due("but . is", () -> graph("K1", ".".repeat(20)).about(3), 20);
        due("a cost of 1", () -> graph("K20a11", "").about(6), 1);

        under("6: 1 if the empty row fits it, otherwise 0");
        for (String pattern : new String[] {"", "|a", "a|", "()", "a*", "a?", "(a*b?)+", "a*b?|c", "(a|)b*", "a?".repeat(20)}) {
            due(pattern, () -> graph("K1", pattern).about(4), 1);
        }
        for (String pattern : new String[] {"a", ".", "a+", "a|b", "a*b", "ab*", "(a+)+", "(a|b)(c|)", "a?".repeat(19) + "a"}) {
            due(pattern, () -> graph("K1", pattern).about(4), 0);
        }
    }

    private static void aboutPaths() {
        under("6: the number of pairs (p, q) of people, p and q different or not");
        due("no people", () -> new StepPaths().about(5), 0);
        due("no pair", () -> graph("K8", "a").about(5), 0);
        due("one person with itself", () -> graph("K1", "").about(5), 1);
        due("each with itself", () -> graph("K8", "").about(5), 8);
        due("one pair", () -> graph("K20a11", "a").about(5), 1);
        due("all pairs", () -> graph(wideGraph(), ".*").about(5), 64);
        due("all pairs but those of one with itself", () -> graph("K20a111a01", "a").about(5), 2);

        under("6: the greatest cost of a best path from one person to one, NONE if there is none");
        due("no people", () -> new StepPaths().about(7), NONE);
        due("no path", () -> graph("K8", "a").about(7), NONE);
        due("only empty rows", () -> graph("K8", "").about(7), 0);
        due("the least of a step", () -> graph("K20a11", "a").about(7), 1);
        due("of best paths only", () -> graph("K20a110b19", ".").about(7), 1);
        due("the greatest, not the last", () -> graph("K30a191a22", "a").about(7), 9);
        due("the greatest, not the first", () -> graph("K30a121a29", "a").about(7), 9);
        StepPaths far = graph("K80a191a292a393a494a595a696a797a09", "(" + "a".repeat(19) + ")+");
        due("the dearest", () -> far.about(7), 9 * 152);
    }

    private static void step() {
        StepPaths x = graph(fullGraph(), "");
        under("7: Throws IndexOutOfBoundsException if there is no such step");
        bounds("s of 24", s -> x.step(s, 0), 0, 23, INDEX);
        due("no steps", () -> graph("K8", "").step(0, 0), INDEX);
        StepPaths one = graph("K20a11", "");
        bounds("s of one", s -> one.step(s, 3), 0, 0, INDEX);
        StepPaths gone = graph("K20a111a01", "");
        gone.removeStep(0);
        due("one is gone", () -> gone.step(1, 0), INDEX);

        under("7: Throws IllegalArgumentException if what is not 0 to 3");
        bounds("what", what -> x.step(0, what), 0, 3, ARGUMENT);
        due("no step, what is out of range", () -> x.step(24, 4), INDEX);
        due("step -1, what is out of range", () -> x.step(-1, -1), INDEX);

        under("7: Returns that number");
        StepPaths y = graph("K80a1" + "17d6" + "9", "");
        long[] least = {0, 0, 1, 1};
        long[] most = {7, 3, 6, 9};
        for (int what = 0; what < 4; what++) {
            int number = what;
            due("the least, " + what, () -> y.step(0, number), least[what]);
            due("the most, " + what, () -> y.step(1, number), most[what]);
        }
        due("to the last person", () -> graph("K80a71", "").step(0, 2), 7);
        due("to the first person", () -> graph("K87a01", "").step(0, 2), 0);
    }

    private static void person() {
        under("8: Throws IndexOutOfBoundsException if there is no such person");
        bounds("p of four", p -> ring("a").person(p, 0), 0, 3, INDEX);
        bounds("p of eight", p -> graph("K8", "").person(p, 3), 0, 7, INDEX);
        due("no people", () -> new StepPaths().person(0, 0), INDEX);

        under("8: Throws IllegalArgumentException if what is not 0 to 3");
        bounds("what", what -> ring("a").person(0, what), 0, 3, ARGUMENT);
        due("no person, what is out of range", () -> ring("a").person(4, 4), INDEX);
        due("person -1, what is out of range", () -> ring("a").person(-1, -1), INDEX);

        under("8: the number of steps that lead from it; of those that lead to it");
        StringBuilder text = new StringBuilder("K8");
        for (int i = 0; i < 24; i++) {
            text.append(0).append((char) ('a' + i / 6)).append(1 + i % 6).append(1);
        }
        StepPaths star = graph(text.toString(), ".");
        due("all from one", () -> star.person(0, 0), 24);
        due("none to it", () -> star.person(0, 1), 0);
        due("none from another one", () -> star.person(1, 0), 0);
        due("four to it", () -> star.person(1, 1), 4);
        due("none at the last one", () -> star.person(7, 0) + star.person(7, 1), 0);
        star.turn(0);
        due("one less from it", () -> star.person(0, 0), 23);
        due("one to it", () -> star.person(0, 1), 1);

        under("8: the people to whom a path from it fits, bit q set for the person q; from whom a path to it fits");
        due("none", () -> graph("K8", "a").person(0, 2), 0);
        due("from none", () -> graph("K8", "a").person(0, 3), 0);
        due("the first bit", () -> graph("K8", "").person(0, 2), 1);
        due("the last bit", () -> graph("K8", "").person(7, 2), 128);
        due("the last bit of those from whom", () -> graph("K8", "").person(7, 3), 128);
        due("all bits", () -> graph(wideGraph(), "a*").person(7, 2), 255);
        due("all bits of those from whom", () -> graph(wideGraph(), "a*").person(0, 3), 255);
        due("one way only", () -> graph("K80a71", "a").person(0, 2), 128);
        due("not the other way", () -> graph("K80a71", "a").person(0, 3), 0);
        due("the other one", () -> graph("K80a71", "a").person(7, 3), 1);
    }

    private static void find() {
        under("9: Throws IndexOutOfBoundsException if there is no such person");
        bounds("p", p -> ring("").find(p, 0, p == 1 ? 2 : 1), 0, 3, INDEX);
        bounds("q", q -> ring("").find(q == 1 ? 2 : 1, 0, q), 0, 3, INDEX);
        due("no people", () -> new StepPaths().find(0, 0, 1), INDEX);

        under("9: Throws IllegalArgumentException if both are the same, or k is out of range");
        bounds("k", k -> ring("").find(0, k, 1), 0, 3, ARGUMENT);
        due("the same, the first", () -> ring("").find(0, 0, 0), ARGUMENT);
        due("the same, the last", () -> ring("").find(3, 0, 3), ARGUMENT);
        due("no such person, the same, k out of range", () -> ring("").find(4, 4, 4), INDEX);
        due("no such person q, k out of range", () -> ring("").find(0, -1, 4), INDEX);
        due("no such person p, k out of range", () -> ring("").find(-1, 4, 0), INDEX);

        under("9: Returns the step of this kind from p to q; NONE if there is none");
        StepPaths x = graph(fullGraph(), "");
        due("the first", () -> x.find(0, 0, 1), 0);
        due("the last", () -> x.find(2, 3, 1), 23);
        due("none without steps", () -> graph("K2", "").find(0, 0, 1), NONE);
        due("none the other way", () -> graph("K20a11", "").find(1, 0, 0), NONE);
        due("none of the kind", () -> graph("K20a11", "").find(0, 1, 1), NONE);
        due("none to another one", () -> graph("K30a11", "").find(0, 0, 2), NONE);
        due("none from another one", () -> graph("K30a11", "").find(2, 0, 1), NONE);
    }

    private static void patternAt() {
        under("10: Throws IllegalArgumentException if i is negative");
        due("-1", () -> ring("ab").patternAt(-1), ARGUMENT);
        due("the least", () -> ring("ab").patternAt(LEAST), ARGUMENT);
        due("-1 of the empty pattern", () -> new StepPaths().patternAt(-1), ARGUMENT);

        under("10: Returns its code; NONE if there is no such character");
        due("the first", () -> ring("a|").patternAt(0), 'a');
        due("the last", () -> ring("a|").patternAt(1), '|');
        due("behind the last", () -> ring("a|").patternAt(2), NONE);
        due("the last of 40", () -> ring("|".repeat(39) + "D").patternAt(39), 'D');
        due("behind the last of 40", () -> ring("|".repeat(40)).patternAt(40), NONE);
        due("far behind it", () -> ring("|".repeat(40)).patternAt(MOST), NONE);
        due("of the empty pattern", () -> ring("").patternAt(0), NONE);
        StepPaths x = ring("abcd");
        write(x, "a");
        x.take();
        due("of a longer one before", () -> x.patternAt(1), NONE);
    }

    private static void addPerson() {
        under("11: Adds a person without steps. Returns its number");
        StepPaths x = new StepPaths();
        for (int p = 0; p < 8; p++) {
            int want = p;
            due("person " + p, () -> x.addPerson(), want);
            due("steps of " + p, () -> x.person(want, 0) + x.person(want, 1), 0);
            due("path of " + p + " to itself", () -> x.person(want, 2), 1 << want);
        }

        under("11: Throws IllegalStateException if there are 8 people");
        due("a ninth", () -> x.addPerson(), STATE);
        x.undo();
        due("the eighth again", () -> x.addPerson(), 7);
        due("then a ninth", () -> x.addPerson(), STATE);
        due("behind a graph of eight", () -> graph("K8", "").addPerson(), STATE);
    }

    private static void addStep() {
        under("12: Throws IndexOutOfBoundsException if there is no such person");
        bounds("p", p -> graph("K4", "").addStep(p, 0, p == 1 ? 2 : 1, 1), 0, 3, INDEX);
        bounds("q", q -> graph("K4", "").addStep(q == 1 ? 2 : 1, 0, q, 1), 0, 3, INDEX);
        due("no people", () -> new StepPaths().addStep(0, 0, 1, 1), INDEX);
        due("no such person, all else wrong", () -> graph("K2", "").addStep(2, 4, 2, 0), INDEX);
        due("no such person q, k out of range", () -> graph("K2", "").addStep(0, 4, 2, 1), INDEX);
        due("no such person q, cost out of range", () -> graph("K2", "").addStep(0, 0, 2, 10), INDEX);
        due("no such person, 24 steps", () -> graph(fullGraph(), "").addStep(3, 0, 0, 1), INDEX);

        under("12: Throws IllegalArgumentException if both are the same, or k or cost is out of range");
        bounds("k", k -> graph("K4", "").addStep(0, k, 1, 1), 0, 3, ARGUMENT);
        bounds("cost", cost -> graph("K4", "").addStep(0, 0, 1, cost), 1, 9, ARGUMENT);
        due("the same", () -> graph("K4", "").addStep(3, 0, 3, 1), ARGUMENT);
        due("the same, 24 steps", () -> graph(fullGraph(), "").addStep(0, 0, 0, 1), ARGUMENT);
        due("k out of range, 24 steps", () -> graph(fullGraph(), "").addStep(0, 4, 1, 1), ARGUMENT);
        due("cost out of range, there already", () -> graph("K20a11", "").addStep(0, 0, 1, 0), ARGUMENT);

        under("12: Throws IllegalStateException if there is such a step, or there are 24 steps");
        due("there is such a step", () -> graph("K20a11", "").addStep(0, 0, 1, 9), STATE);
        due("both", () -> graph(fullGraph(), "").addStep(0, 0, 1, 1), STATE);
        StepPaths x = graph("K80a11", "");
        for (int s = 1; s < 24; s++) {
            int p = s % 8;
            int k = s / 8;
            int want = s;
            due("step " + s, () -> x.addStep(p, k, (p + 1) % 8, 1 + want % 9), want);
        }
        due("a 25th", () -> x.addStep(0, 3, 1, 1), STATE);
        x.undo();
        due("the 24th again", () -> x.addStep(0, 3, 1, 1), 23);
        due("then a 25th", () -> x.addStep(1, 3, 2, 1), STATE);
        due("the last one's cost", () -> x.step(23, 3), 1);
    }

    private static void removeStep() {
        under("13: Throws IndexOutOfBoundsException if there is no such step");
        bounds("s of 24", s -> graph(fullGraph(), "").removeStep(s), 0, 23, INDEX);
        bounds("s of one", s -> graph("K20a11", "").removeStep(s), 0, 0, INDEX);
        due("no steps", () -> graph("K2", "").removeStep(0), INDEX);

        under("13: those behind it get numbers that are smaller by 1. Returns the number of steps then");
        StepPaths first = graph("K20a110b120c13", "");
        due("the first", () -> first.removeStep(0), 2);
        due("0 then", () -> first.step(0, 3), 2);
        due("1 then", () -> first.step(1, 3), 3);
        due("no 2 then", () -> first.step(2, 3), INDEX);
        StepPaths last = graph("K20a110b120c13", "");
        due("the last", () -> last.removeStep(2), 2);
        due("0 stays", () -> last.step(0, 3), 1);
        due("1 stays", () -> last.step(1, 3), 2);
        due("2 is gone", () -> last.step(2, 3), INDEX);
        StepPaths all = graph(fullGraph(), "");
        for (int left = 23; left >= 0; left--) {
            int want = left;
            due("down to " + left, () -> all.removeStep(want), want);
        }
        due("none is left", () -> all.removeStep(0), INDEX);
        for (int s = 0; s < 24; s++) {
            removedOf24(s);
        }
    }

    private static void removedOf24(int removed) {
        StepPaths before = graph(wideGraph(), "");
        StepPaths then = graph(wideGraph(), "");
        for (int s = 0; s < 24; s++) {
            before.setCost(s, 1 + s % 9);
            then.setCost(s, 1 + s % 9);
        }
        due("without " + removed, () -> then.removeStep(removed), 23);
        for (int s = 0; s < 23; s++) {
            for (int what = 0; what < 4; what++) {
                int one = s;
                int number = what;
                due("step " + s + " without " + removed + ", " + what, () -> then.step(one, number),
                        before.step(s < removed ? s : s + 1, what));
            }
        }
    }

    private static void setCost() {
        under("14: Throws IndexOutOfBoundsException if there is no such step");
        bounds("s of 24", s -> graph(fullGraph(), "").setCost(s, 5), 0, 23, INDEX);
        bounds("s of one", s -> graph("K20a11", "").setCost(s, 5), 0, 0, INDEX);
        due("no steps", () -> graph("K2", "").setCost(0, 1), INDEX);
        due("no such step, cost out of range", () -> graph("K20a11", "").setCost(1, 0), INDEX);
        due("step -1, cost out of range", () -> graph("K20a11", "").setCost(-1, 10), INDEX);

        under("14: Throws IllegalArgumentException if cost is out of range");
        bounds("cost", cost -> graph("K20a15", "").setCost(0, cost), 1, 9, ARGUMENT);

        under("14: Changes the cost of a step. Returns its previous cost");
        StepPaths x = graph(fullGraph(), "a");
        due("the last to the largest", () -> x.setCost(23, 9), 1);
        due("the last to the smallest", () -> x.setCost(23, 1), 9);
        due("the last to what it has", () -> x.setCost(23, 1), 1);
        due("the first to the largest", () -> x.setCost(0, 9), 1);
        due("its cost", () -> x.step(0, 3), 9);
        due("the next one's", () -> x.step(1, 3), 1);
        due("the path's", () -> x.cost(0, 1), 9);
    }

    private static void turn() {
        under("15: Throws IndexOutOfBoundsException if there is no such step");
        bounds("s of three", s -> graph("K40a111a212a31", "").turn(s), 0, 2, INDEX);
        due("no steps", () -> graph("K2", "").turn(0), INDEX);

        under("15: Throws IllegalStateException if there is a step of its kind that leads so already");
        due("the first", () -> graph("K20a111a01", "").turn(0), STATE);
        due("the second", () -> graph("K20a111a01", "").turn(1), STATE);
        due("of another kind", () -> graph("K20a111b01", "").turn(0), 1);
        due("of its kind, to another one", () -> graph("K30a111a21", "").turn(0), 1);
        due("of its kind, from another one", () -> graph("K30a112a01", "").turn(0), 1);
        due("the last of 24", () -> graph(fullGraph(), "").turn(23), STATE);

        under("15: it leads the other way then. Returns the person from whom it leads then");
        StepPaths x = graph("K80d79", "d");
        due("turn", () -> x.turn(0), 7);
        due("from", () -> x.step(0, 0), 7);
        due("kind", () -> x.step(0, 1), 3);
        due("to", () -> x.step(0, 2), 0);
        due("cost", () -> x.step(0, 3), 9);
        due("a path now", () -> x.cost(7, 0), 9);
        due("none the way it led", () -> x.cost(0, 7), NONE);
        due("turn again", () -> x.turn(0), 0);
    }

    private static void exchange() {
        under("16: Throws IllegalArgumentException if k or l is out of range");
        bounds("k", k -> ring("").exchange(k, 0), 0, 3, ARGUMENT);
        bounds("l", l -> ring("").exchange(0, l), 0, 3, ARGUMENT);
        due("both", () -> ring("").exchange(4, 4), ARGUMENT);
        due("both of them, without steps", () -> new StepPaths().exchange(-1, -1), ARGUMENT);

        under("16: Returns how many steps are of another kind then");
        due("without steps", () -> new StepPaths().exchange(0, 3), 0);
        due("none of them", () -> ring("").exchange(2, 3), 0);
        due("a kind with itself", () -> ring("").exchange(0, 0), 0);
        due("one", () -> ring("").exchange(1, 3), 1);
        due("only one kind has steps", () -> ring("").exchange(3, 0), 4);
        due("both kinds", () -> ring("").exchange(1, 0), 5);
        StepPaths all = graph("K8" + wideGraph().substring(2).replace('c', 'd').replace('b', 'd').replace('a', 'd'), "");
        due("all of 24", () -> all.exchange(0, 3), 24);
        due("the last of them", () -> all.step(23, 1), 0);
        due("and back", () -> all.exchange(0, 3), 24);
        due("the last of them then", () -> all.step(23, 1), 3);

        under("16: The pattern stays");
        StepPaths x = ring("a");
        due("a path", () -> x.cost(0, 1), 1);
        x.exchange(0, 1);
        due("its character", () -> x.patternAt(0), 'a');
        due("no path now", () -> x.cost(0, 1), NONE);
        due("another one", () -> x.cost(0, 2), 9);
    }

    private static void take() {
        under("17: Takes the text as the pattern. Returns the number of its signs that are no parentheses");
        due("the empty text", () -> new StepPaths().take(), 0);
        due("one", () -> text("a").take(), 1);
        due("none of two", () -> text("()").take(), 0);
        due("twenty", () -> text(".*".repeat(20)).take(), 20);
        StepPaths longest = text(".*".repeat(19) + "D+");
        longest.take();
        due("the length of the longest", () -> longest.about(2), 40);
        due("its last character", () -> longest.patternAt(39), '+');

        StepPaths later = ring("|a");
        write(later, "bb");
        later.take();
        due("the empty row does not fit as before", () -> later.about(4), 0);
        due("nor does a", () -> later.cost(0, 1), NONE);
        write(later, "((a)(b))|c*");
        later.take();
        write(later, "(b)");
        later.take();
        due("nor does what fitted then", () -> later.about(5), 1);

        under("17: Keeps the text");
        due("taken again", () -> longest.take(), 20);
        due("its length", () -> longest.clearText(), 40);

        under("17: Throws IllegalStateException if the text is not a pattern");
        String[] others = {"*", "a**", "(", ")", "e", "K1", "a".repeat(21), "|".repeat(41), "|".repeat(110), "(".repeat(10)};
        for (String other : others) {
            StepPaths x = ring("ab");
            write(x, other);
            due("take " + other, () -> x.take(), STATE);
            due("the pattern stays", () -> x.patternAt(1), 'b');
        }
    }

    private static void undo() {
        under("18: Throws IllegalStateException if none is remembered");
        due("at first", () -> new StepPaths().undo(), STATE);
        StepPaths x = new StepPaths();
        x.addPerson();
        due("one", () -> x.undo(), 0);
        due("then none", () -> x.undo(), STATE);

        under("18: Takes back the last action that is remembered. Returns how many states are still remembered");
        for (int i = 0; i < 8; i++) {
            x.addPerson();
        }
        for (int k = 0; k < 7; k++) {
            x.addStep(k, 0, k + 1, 1);
        }
        for (int left = 13; left >= 7; left--) {
            int want = left;
            due("a step, to " + left, () -> x.undo(), want);
            due("steps then", () -> x.about(1), want - 7);
        }
        for (int left = 6; left >= 0; left--) {
            int want = left;
            due("a person, to " + left, () -> x.undo(), want);
            due("people then", () -> x.about(0), want + 1);
        }
        due("fifteen were too many", () -> x.undo(), STATE);
        due("the first action stays", () -> x.about(0), 1);

        under("18: everything but the text and the save slots");
        StepPaths y = graph(wideGraph(), ".*".repeat(20));
        y.removeStep(0);
        write(y, "");
        y.take();
        y.undo();
        y.undo();
        due("24 steps again", () -> y.about(1), 24);
        due("the first one", () -> y.step(0, 0) * 1000 + y.step(0, 1) * 100 + y.step(0, 2) * 10 + y.step(0, 3), 19);
        due("the last one", () -> y.step(23, 0) * 1000 + y.step(23, 1) * 100 + y.step(23, 2) * 10 + y.step(23, 3), 7229);
        due("the pattern again", () -> y.about(2), 40);
        due("and it fits", () -> y.about(5), 64);
    }

    private static void cost() {
        under("19: Throws IndexOutOfBoundsException if there is no such person");
        twoPeople("cost", (x, p, q) -> x.cost(p, q));

        under("19: Returns its cost; NONE if no path from p to q fits");
        due("none", () -> ring("c").cost(0, 1), NONE);
        due("none from one to itself", () -> ring("c").cost(0, 0), NONE);
        due("the empty row", () -> ring("").cost(3, 3), 0);
        due("the least", () -> ring("a").cost(0, 1), 1);
        due("of one step", () -> ring("b").cost(0, 2), 9);
        due("of twenty letters", () -> graph("K20a19", "aA".repeat(10)).cost(0, 0), 180);
        due("all letters but one are left out", () -> graph("K20a19", "a?".repeat(20)).cost(0, 1), 9);
    }

    private static void costsOneAfterAnother() {
        under("19: these and all following methods up to the save slots change nothing");
        for (int first = 0; first < 16; first++) {
            for (int second = 0; second < 16; second++) {
                int one = first;
                int other = second;
                StepPaths x = ring("a*|b");
                x.cost(one / 4, one % 4);
                due("cost " + other / 4 + " " + other % 4 + " behind cost " + one / 4 + " " + one % 4,
                        () -> x.cost(other / 4, other % 4), (4 + other % 4 - other / 4) % 4);
            }
        }
    }

    private static void length() {
        under("20: Throws IndexOutOfBoundsException if there is no such person");
        twoPeople("length", (x, p, q) -> x.length(p, q));

        under("20: Returns the number of its goings; NONE if no path from p to q fits");
        due("none", () -> ring("c").length(0, 1), NONE);
        due("none from one to itself", () -> ring("c").length(0, 0), NONE);
        due("the empty row", () -> ring("").length(3, 3), 0);
        due("one", () -> ring("a").length(0, 1), 1);
        due("twenty letters", () -> graph("K20a19", "aA".repeat(10)).length(0, 0), 20);
        due("round and round", () -> ring("(" + "a".repeat(19) + ")+").length(0, 0), 76);
    }

    private static void pathAt() {
        under("21: Throws IndexOutOfBoundsException if there is no such person");
        twoPeople("pathAt", (x, p, q) -> x.pathAt(p, q, 0));
        due("no such person, i is negative", () -> ring("a").pathAt(4, 0, -1), INDEX);
        due("no such person q, i is negative", () -> ring("a").pathAt(0, -1, -1), INDEX);

        under("21: Throws IllegalArgumentException if i is negative");
        due("-1", () -> ring("a").pathAt(0, 1, -1), ARGUMENT);
        due("the least", () -> ring("a").pathAt(0, 1, LEAST), ARGUMENT);
        due("-1 where no path fits", () -> ring("c").pathAt(0, 1, -1), ARGUMENT);
        due("-1 of the empty row", () -> ring("").pathAt(0, 0, -1), ARGUMENT);

        under("21: Returns 10 * (its step) + (0 or 1); NONE if there is no such going");
        due("none fits", () -> ring("c").pathAt(0, 1, 0), NONE);
        due("the empty row has none", () -> ring("").pathAt(0, 0, 0), NONE);
        due("the least", () -> ring("a").pathAt(0, 1, 0), 0);
        due("step 0 backwards", () -> ring("A").pathAt(1, 0, 0), 1);
        due("the last of one", () -> ring("a").pathAt(0, 1, 1), NONE);
        due("step 23", () -> graph(fullGraph(), "d").pathAt(2, 1, 0), 230);
        due("step 23 backwards", () -> graph(fullGraph(), "D").pathAt(1, 2, 0), 231);
        due("the last of three", () -> ring("a*").pathAt(0, 3, 2), 20);
        due("behind the last of three", () -> ring("a*").pathAt(0, 3, 3), NONE);
        due("far behind it", () -> ring("a*").pathAt(0, 3, MOST), NONE);
        due("far behind where none fits", () -> ring("c").pathAt(0, 3, MOST), NONE);
    }

    private static void paths() {
        under("22: Throws IndexOutOfBoundsException if there is no such person");
        twoPeople("paths", (x, p, q) -> x.paths(p, q, 1));
        due("no such person, n is out of range", () -> ring("a").paths(4, 0, 5), INDEX);
        due("no such person q, n is out of range", () -> ring("a").paths(0, 4, -1), INDEX);

        under("22: Throws IllegalArgumentException if n is out of range");
        bounds("n", n -> ring("a").paths(0, 0, n), 0, 4, ARGUMENT);

        under("22: Returns how many paths from p to q with at most n goings fit");
        due("none", () -> ring("c").paths(0, 1, 4), 0);
        due("of none the empty row", () -> ring("").paths(0, 0, 0), 1);
        due("of four only the empty row", () -> ring("").paths(0, 0, 4), 1);
        due("one with one going", () -> ring("a*").paths(0, 1, 1), 1);
        due("not with none", () -> ring("a*").paths(0, 1, 0), 0);
        due("four goings round", () -> ring("a+").paths(0, 0, 4), 1);
        due("not three", () -> ring("a+").paths(0, 0, 3), 0);
        due("never five", () -> ring("aaaaa").paths(0, 1, 4), 0);
        due("each once, though it fits in several ways", () -> ring("(a|a|.)*a*").paths(0, 1, 1), 1);
        due("two steps are two paths", () -> graph("K20a110b11", ".").paths(0, 1, 1), 2);
        String all = "K20a110b110c110d111a011b011c011d01";
        long[] most = {1, 1, 1 + 64, 1 + 64, 1 + 64 + 4096};
        for (int n = 0; n < 5; n++) {
            int goings = n;
            due("the most with " + n, () -> graph(all, "(.|A|B|C|D)*").paths(0, 0, goings), most[n]);
        }
    }

    private static void needed() {
        under("23: Throws IndexOutOfBoundsException if there is no such person");
        twoPeople("needed", (x, p, q) -> x.needed(p, q));

        under("23: Returns the steps, bit s set for the step s, each of which is in all paths from p to q that fit");
        due("the first bit", () -> ring("a").needed(0, 1), 1);
        due("the last bit", () -> graph(fullGraph(), "d").needed(2, 1), 1 << 23);
        StringBuilder text = new StringBuilder("K8");
        for (int i = 0; i < 6; i++) {
            text.append(i).append('a').append(i + 1).append(1);
            text.append(i + 1).append('b').append(i + 2).append(1);
            text.append(i + 2).append('c').append((i + 3) % 8).append(1);
            text.append((i + 3) % 8).append('d').append(i + 1).append(1);
        }
        due("all bits", () -> graph(text.toString(), "(abcd)+").needed(0, 6), (1 << 24) - 1);
        due("none of two", () -> graph("K20a110b11", ".").needed(0, 1), 0);
        due("none for the empty row", () -> ring("a*").needed(0, 0), 0);
        due("forwards or backwards is the same step", () -> graph("K20a11", "aA(aA)?").needed(0, 0), 1);
        due("not what only the best path has", () -> graph("K30a111a210b29", "aa|b").needed(0, 2), 0);

        under("23: 0 if no path fits");
        due("no such kind", () -> ring("c").needed(0, 1), 0);
        due("no steps", () -> graph("K2", "a").needed(0, 1), 0);
    }

    private static void bestNew() {
        under("24: Throws IndexOutOfBoundsException if there is no such person");
        twoPeople("bestNew", (x, p, q) -> x.bestNew(p, q));

        under("24: Returns 100 * a + 10 * k + b of the step from a to b of the kind k");
        due("the least", () -> graph("K2", "a").bestNew(0, 1), 1);
        due("the largest", () -> graph("K8", "D").bestNew(6, 7), 736);
        due("of the kind 3", () -> graph("K2", "d").bestNew(0, 1), 31);

        for (int p = 0; p < 8; p++) {
            for (int q = 0; q < 8; q++) {
                eachKind(p, q);
            }
        }

        under("24: with the cost 1");
        due("cheaper than what is there", () -> graph("K30a12", "a|b").bestNew(0, 1), 11);
        due("as cheap as what is there", () -> graph("K30a11", "a|b").bestNew(0, 1), 2);
        due("twice the cost 1", () -> graph("K30a111a210b22", "..").bestNew(0, 2), 2);

        under("24: that is not there");
        due("the first is there", () -> graph("K20a11", "").bestNew(0, 0), 11);
        due("all from 0 are there", () -> graph("K20a110b110c110d11", "").bestNew(0, 0), 100);
        due("only the last is not", () -> graph("K20a110b110c110d111a011b011c01", "").bestNew(0, 0), 130);

        under("24: also if it is as it is now");
        due("the empty row", () -> graph("K3", "").bestNew(2, 2), 1);
        due("nothing is cheaper", () -> graph("K20a11", "a").bestNew(0, 1), 11);

        under("24: of several the smallest number");
        due("two kinds", () -> graph("K2", "c|b").bestNew(0, 1), 11);
        due("forwards and backwards", () -> graph("K2", "a|A").bestNew(1, 0), 1);
        due("two people", () -> graph("K30a11", "aa").bestNew(0, 2), 102);

        under("24: NONE if with none of them a path would fit");
        due("one person", () -> graph("K1", "").bestNew(0, 0), NONE);
        due("one step is not enough", () -> graph("K3", "aa").bestNew(0, 2), NONE);
        due("one step is enough for two goings", () -> graph("K3", "aAa").bestNew(0, 2), 2);
        due("two steps at once are not tried", () -> graph("K40b111b21", "bcd|bbdd").bestNew(0, 3), NONE);
        due("it may be gone both ways", () -> graph("K20b11", "b?(a|A)").bestNew(0, 1), 1);
        due("before a person comes again", () -> graph("K30b11", "a|bB").bestNew(0, 2), 2);
        due("all are there", () -> graph("K20a110b110c110d111a011b011c011d01", ".").bestNew(0, 1), NONE);

        under("24: that there may be 24 steps at most does not matter");
        StepPaths full = graph(wideGraph(), "d");
        due("a 25th", () -> full.bestNew(7, 0), 730);
        due("there are 24 then", () -> full.about(1), 24);
        due("and no path", () -> full.cost(7, 0), NONE);
    }

    private static void eachKind(int p, int q) {
        for (int k = 0; k < 4 && p != q; k++) {
            String forwards = String.valueOf((char) ('a' + k));
            String backwards = String.valueOf((char) ('A' + k));
            due(forwards + " " + p + " " + q, () -> graph("K8", forwards).bestNew(p, q), 100 * p + 10 * k + q);
            due(backwards + " " + p + " " + q, () -> graph("K8", backwards).bestNew(p, q), 100 * q + 10 * k + p);
        }
    }

    private static void follow() {
        under("25: Throws IndexOutOfBoundsException if there is no such person");
        bounds("p", p -> ring("a*").follow(p, 1, 0L), 0, 3, INDEX);
        due("no people", () -> new StepPaths().follow(0, 1, 0L), INDEX);
        due("no such person, n is out of range", () -> ring("a").follow(4, 6, 0L), INDEX);
        due("no such person, row is negative", () -> ring("a").follow(-1, 1, -1L), INDEX);

        under("25: Throws IllegalArgumentException if n is out of range");
        bounds("n", n -> ring("a*").follow(0, n, 0L), 1, 5, ARGUMENT);

        under("25: or if row is negative or has more than 3 * n digits");
        long most = 1;
        for (int n = 1; n <= 5; n++) {
            int goings = n;
            long beyond = 1000 * most;
            most = beyond;
            due(n + ", -1", () -> ring("a*").follow(0, goings, -1L), ARGUMENT);
            due(n + ", the least", () -> ring("a*").follow(0, goings, Long.MIN_VALUE), ARGUMENT);
            due(n + ", the most digits", () -> ring("a*").follow(0, goings, beyond - 1), 1);
            due(n + ", one digit more", () -> ring("a*").follow(0, goings, beyond), ARGUMENT);
            due(n + ", the largest", () -> ring("a*").follow(0, goings, Long.MAX_VALUE), ARGUMENT);
            due(n + ", more than an int", () -> ring("a*").follow(0, goings, 1L << 62), ARGUMENT);
        }
        due("n out of range, row negative", () -> ring("a*").follow(0, 0, -1L), ARGUMENT);
    }

    private static void followNumbers() {
        under("25: three digits each, the first one highest (with zeros before it, if it has fewer digits)");
        due("0 is step 0 forwards", () -> ring("a").follow(0, 1, 0L), NONE);
        due("10 is two goings", () -> ring("aa").follow(0, 2, 10L), NONE);
        due("five goings", () -> ring("aaaaa").follow(0, 5, 10_020_030_000L), NONE);
        due("step 23 backwards", () -> graph(fullGraph(), "D").follow(1, 1, 231L), NONE);

        under("25: a step that there is not, another direction, too");
        due("the first step behind the last", () -> ring(".*").follow(0, 1, 50L), 1);
        due("the last step", () -> ring(".*").follow(0, 1, 40L), NONE);
        due("step 24", () -> graph(fullGraph(), ".*").follow(0, 1, 240L), 1);
        due("step 99", () -> ring(".*").follow(0, 1, 990L), 1);
        due("no steps", () -> graph("K2", ".*").follow(0, 1, 0L), 1);
        for (int direction = 2; direction < 10; direction++) {
            long row = direction;
            due("direction " + direction, () -> ring("(.|A)*").follow(0, 1, row), 1);
            due("direction " + direction + " from the other one", () -> ring("(.|A)*").follow(1, 1, row), 1);
        }
        due("direction 1", () -> ring("(.|A)*").follow(1, 1, 1L), NONE);
        due("direction 1 from where the step begins", () -> ring("(.|A)*").follow(0, 1, 1L), 1);
        due("direction 0 from where the step ends", () -> ring("(.|A)*").follow(1, 1, 0L), 1);

        under("25: the smallest number of goings with which the row is no path from p any more");
        due("the first of five", () -> ring("a*").follow(1, 5, 10_020_030_000L), 1);
        due("the second of five", () -> ring("a*").follow(0, 5, 20_020_030_000L), 2);
        due("the last of five", () -> ring("a*").follow(0, 5, 10_020_030_010L), 5);

        under("25: or with which it is no beginning of a row that fits, however steps lead");
        due("the first", () -> ring("b").follow(0, 2, 10L), 1);
        due("the second", () -> ring("a").follow(0, 2, 10L), 2);
        due("the last of five", () -> ring("aaaa").follow(0, 5, 10_020_030_000L), 5);
        due("the empty pattern", () -> ring("").follow(0, 1, 0L), 1);
        due("a beginning, though no step is of the kind d", () -> ring("ad").follow(0, 1, 0L), 2);
        due("no beginning before no path", () -> ring("b").follow(0, 2, 99L), 1);

        under("25: NONE if all of it is a path that fits; n + 1 if it is a path and such a beginning, but does not fit itself");
        due("one fits", () -> ring("a|aa").follow(0, 1, 0L), NONE);
        due("one does not yet", () -> ring("aa").follow(0, 1, 0L), 2);
        due("five fit", () -> ring("a*").follow(0, 5, 10_020_030_000L), NONE);
        due("five do not yet", () -> ring("aaaaaa").follow(0, 5, 10_020_030_000L), 6);
    }

    private static void script(String pattern, int n, long commands, long want) {
        due("script " + commands + " with " + pattern, () -> ring(pattern).runScript(n, commands), want);
    }

    private static void runScript() {
        under("26: Throws IllegalArgumentException if n is out of range");
        bounds("n", n -> ring("a").runScript(n, 0L), 1, 3, ARGUMENT);

        under("26: or if script is negative or has more than 5 * n digits");
        long most = 1;
        for (int n = 1; n <= 3; n++) {
            int commands = n;
            long beyond = 100000 * most;
            most = beyond;
            due(n + ", -1", () -> ring("a").runScript(commands, -1L), ARGUMENT);
            due(n + ", the least", () -> ring("a").runScript(commands, Long.MIN_VALUE), ARGUMENT);
            due(n + ", the most digits", () -> ring("a").runScript(commands, beyond - 1), 0);
            due(n + ", one digit more", () -> ring("a").runScript(commands, beyond), ARGUMENT);
            due(n + ", the largest", () -> ring("a").runScript(commands, Long.MAX_VALUE), ARGUMENT);
        }
        due("n out of range, script negative", () -> ring("a").runScript(4, -1L), ARGUMENT);

        under("26: the first command is the highest group of the number (with zeros before it, if it has fewer digits)");
        script("a*", 1, 0L, 0);
        script("a*", 3, 0L, 0);
        script("a*", 2, 50000L, 0);
        script("a*", 2, 50000_00000L, 1);
        script("a*", 3, 50000_50000_09999L, 2);

        under("26: Returns the index, from 0, of the first command that fails; NONE if all succeed");
        script("a*", 1, 50000L, NONE);
        script("a*", 3, 50000_50000_50000L, NONE);
        script("a*", 3, 90000_50000_90000L, 0);
        script("a*", 3, 50000_90000_90000L, 1);
        script("a*", 3, 50000_50000_90000L, 2);
    }

    private static void scriptsThatChange() {
        under("26: 1 p k q c: addStep(p, k, q, c)");
        script("a*", 1, 10111L, NONE);
        script("a*", 1, 13331L, 0);
        script("a*", 1, 13321L, NONE);
        script("a*", 1, 13421L, 0);
        script("a*", 1, 14021L, 0);
        script("a*", 1, 10041L, 0);
        script("a*", 1, 10110L, 0);
        script("a*", 1, 10119L, NONE);
        script("a*", 1, 10011L, 0);
        due("a 24th step", () -> graph(wideGraph().substring(0, 94), "").runScript(1, 17301L), NONE);
        due("a 25th step", () -> graph(wideGraph(), "").runScript(1, 17301L), 0);
        due("a 25th in the script", () -> graph(wideGraph().substring(0, 94), "").runScript(2, 17301_16301L), 1);
        due("a 24th after one went", () -> graph(wideGraph(), "").runScript(3, 20000_17301_16301L), 2);

        under("26: 2 s s 0 0: removeStep(ss)");
        script("a*", 1, 20000L, NONE);
        script("a*", 1, 20400L, NONE);
        script("a*", 1, 20500L, 0);
        script("a*", 1, 29900L, 0);
        script("a*", 1, 20010L, 0);
        script("a*", 1, 20001L, 0);
        due("step 23", () -> graph(wideGraph(), "").runScript(2, 22300_22300L), 1);
        due("step 24", () -> graph(wideGraph(), "").runScript(1, 22400L), 0);
        due("the only one", () -> graph("K20a11", "").runScript(2, 20000_20000L), 1);

        under("26: 3 s s 0 c: setCost(ss, c)");
        script("a*", 1, 30001L, NONE);
        script("a*", 1, 30009L, NONE);
        script("a*", 1, 30000L, 0);
        script("a*", 1, 30409L, NONE);
        script("a*", 1, 30509L, 0);
        script("a*", 1, 30019L, 0);
        script("a*", 2, 30009_60109L, NONE);
        script("a*", 2, 30009_60108L, 1);

        under("26: 4 s s 0 0: turn(ss)");
        script("a", 2, 40000_61001L, NONE);
        script("a", 2, 40000_60199L, 1);
        script("a", 1, 40400L, NONE);
        script("a", 1, 40500L, 0);
        script("a", 1, 40010L, 0);
        script("a", 1, 40001L, 0);
        script("a", 2, 11001_40000L, 1);

        under("26: 5 k l 0 0: exchange(k, l)");
        script("d", 2, 50300_60101L, NONE);
        script("d", 2, 53000_60101L, NONE);
        script("d", 2, 53300_60101L, 1);
        script("d", 1, 50400L, 0);
        script("d", 1, 54000L, 0);
        script("d", 1, 50010L, 0);
        script("d", 1, 50001L, 0);
    }

    private static void scriptsForEachStep() {
        under("26: ss and xy are decimal numbers");
        for (int s = 0; s < 24; s++) {
            long ss = 100 * s;
            int p = s % 8;
            int q = (p + 1 + s / 8) % 8;
            long there = 1000 * p + 100 * q;
            long back = 1000 * q + 100 * p;
            long pair = 10 * p + q;
            stepScript(2, (20000 + ss) * 100000 + 60099 + there, 1);
            stepScript(2, (20000 + ss) * 100000 + 60099 + 1000 * q + 100 * ((q + 1 + s / 8) % 8), NONE);
            stepScript(2, (30004 + ss) * 100000 + 60004 + there, NONE);
            stepScript(2, (30004 + ss) * 100000 + 60003 + there, 1);
            stepScript(2, (40000 + ss) * 100000 + 60009 + back, NONE);
            stepScript(2, (40000 + ss) * 100000 + 60009 + there, 1);
            stepScript(1, 90000 + ss + pair, NONE);
            stepScript(1, 90000 + (ss + 100) % 2400 + pair, 0);
        }
        stepScript(1, 92407L, 0);
    }

    private static void stepScript(int n, long commands, long want) {
        due("script " + commands, () -> graph(wideGraph(), ".").runScript(n, commands), want);
    }

    private static void scriptsThatAsk() {
        under("26: 6 p q x y: succeeds if a path from p to q fits, and the best one costs at most xy");
        script("a*", 1, 60000L, NONE);
        script("b", 1, 60209L, NONE);
        script("b", 1, 60208L, 0);
        script("b", 1, 60299L, NONE);
        script("b", 1, 60199L, 0);
        script("a*", 1, 63000L, 0);
        script("a*", 1, 63001L, NONE);
        script("a*", 1, 60499L, 0);
        script("a*", 1, 64099L, 0);
        due("99", () -> graph("K20a19", "aA".repeat(5) + "a").runScript(1, 60199L), NONE);
        due("more than 99", () -> graph("K20a19", "aA".repeat(6)).runScript(1, 60099L), 0);

        under("26: 7 p q 0 n: succeeds if a path from p to q fits, and the best one has at most n goings");
        script("a*", 1, 70000L, NONE);
        script("a*", 1, 70100L, 0);
        script("a*", 1, 70101L, NONE);
        script("a*", 1, 70302L, 0);
        script("a*", 1, 70303L, NONE);
        script("a*", 1, 70309L, NONE);
        script("b", 1, 70109L, 0);
        script("a*", 1, 70313L, 0);
        script("a*", 1, 70409L, 0);
        script("a*", 1, 74009L, 0);
        script("a".repeat(9), 1, 70109L, NONE);
        script("a".repeat(10), 1, 70209L, 0);

        under("26: 8 p 0 0 n: succeeds if paths from p to at least n people fit");
        script("c", 1, 80000L, NONE);
        script("c", 1, 80001L, 0);
        script("a*", 1, 80004L, NONE);
        script("a*", 1, 80003L, NONE);
        script("a*", 1, 80005L, 0);
        script("a*", 1, 83004L, NONE);
        script("a*", 1, 84000L, 0);
        script("a*", 1, 80100L, 0);
        script("a*", 1, 80010L, 0);
        due("all eight", () -> graph(wideGraph(), "a*").runScript(1, 87008L), NONE);
        due("nine", () -> graph(wideGraph(), "a*").runScript(1, 87009L), 0);

        under("26: 9 s s p q: succeeds if the step ss is in all paths from p to q that fit (and one fits)");
        script("a*", 1, 90001L, NONE);
        script("a*", 1, 90101L, 0);
        script("b", 1, 90402L, NONE);
        script("a|b", 1, 90402L, NONE);
        script("aa|b", 1, 90402L, 0);
        script("c", 1, 90001L, 0);
        script("a*", 1, 90501L, 0);
        script("a*", 1, 90004L, 0);
        script("a*", 1, 90040L, 0);
        due("step 23", () -> graph(fullGraph(), "d").runScript(1, 92321L), NONE);
        due("step 24", () -> graph(fullGraph(), "d").runScript(1, 92421L), 0);

        under("26: commands with people or steps that do not exist fail");
        long[] commands = {18001, 10081, 22400, 29900, 32401, 42400, 68099, 60899, 69099, 60999, 78009, 70809, 88000, 89000,
            90080, 90008, 90090, 92401, 99901};
        for (long command : commands) {
            due("command " + command, () -> graph(wideGraph(), ".*").runScript(1, command), 0);
        }

        under("26: and so does any other group");
        for (long d2 = 0; d2 < 10; d2++) {
            script("a*", 1, 1000 * d2, 0);
        }
        script("a*", 1, 9999L, 0);
    }

    private static void scriptsOnACopy() {
        under("26: Runs a script on a copy of the state");
        StepPaths x = ring("a*");
        due("a script", () -> x.runScript(3, 12017_20000_50200L), NONE);
        due("the steps stay", () -> x.about(1), 5);
        due("their costs stay", () -> x.about(6), 13);
        due("their kinds stay", () -> x.step(1, 1), 0);
        due("each command sees those before it", () -> x.runScript(3, 20000_20000_90202L), 2);
        due("each script sees none before it", () -> x.runScript(1, 20400L), NONE);
        due("nor does it later", () -> x.runScript(1, 20400L), NONE);
        due("a script that fails", () -> x.runScript(2, 40000_00000L), 1);
        due("what it did is not there", () -> x.step(0, 0), 0);
        due("nothing is remembered", () -> x.undo(), 0);
    }

    private static void simulate() {
        under("27: Throws IllegalArgumentException if m is out of range");
        bounds("m", m -> ring("a").simulate(0L, m), 1, 20, ARGUMENT);

        under("27: seed: any long (with long overflow)");
        long[] seeds = {0, 1, -1, 2, Long.MIN_VALUE, Long.MIN_VALUE + 1, Long.MAX_VALUE, Long.MAX_VALUE - 1, 1L << 33,
            -(1L << 33), 0xFFFFFFFFL, 6364136223846793005L, -1442695040888963407L};
        for (long seed : seeds) {
            for (int m : new int[] {1, 2, 19, 20}) {
                due("one step, seed " + seed + ", " + m, () -> graph("K20a15", "a").simulate(seed, m), days(seed, m, 1));
                due("24 steps, seed " + seed + ", " + m, () -> graph(fullGraph(), "a").simulate(seed, m), days(seed, m, 24));
            }
        }

        under("27: Returns 100000 * (the pairs of all days) + (the greatest costs of all days that have one)");
        due("no people", () -> new StepPaths().simulate(1L, 20), 0);
        due("no steps and no pair", () -> graph("K8", "a").simulate(1L, 20), 0);
        due("one person", () -> graph("K1", "").simulate(1L, 1), 100_000);
        due("all pairs of empty rows", () -> graph("K8", "").simulate(1L, 20), 16_000_000);
    }

    /**
     * The days as the document tells them, for the pattern a: each step of the kind a that can be gone
     * makes a pair, and the greatest cost of these is that of the day. The full graph has every fourth
     * step of the kind a, the small one its only step.
     */
    private static long days(long seed, int m, int steps) {
        long x = seed;
        long pairs = 0;
        long costs = 0;
        for (int day = 0; day < m; day++) {
            long greatest = 0;
            for (int s = 0; s < steps; s++) {
                x = x * 6364136223846793005L + 1442695040888963407L;
                int r = (int) (x >>> 33);
                if (s % 4 == 0 && r / 16 % 8 != 0) {
                    pairs++;
                    greatest = Math.max(greatest, 1 + r % 9);
                }
            }
            costs += greatest;
        }
        return 100000 * pairs + costs;
    }

    private static int firstNumber(long seed) {
        return (int) ((seed * 6364136223846793005L + 1442695040888963407L) >>> 33);
    }

    private static long seedWith(int rest9, int rest8) {
        long seed = 0;
        while (firstNumber(seed) % 9 != rest9 || firstNumber(seed) / 16 % 8 != rest8) {
            seed++;
        }
        return seed;
    }

    private static void simulatedDays() {
        under("27: the cost of the step is 1 + r % 9");
        for (int rest = 0; rest < 9; rest++) {
            int cost = 1 + rest;
            long seed = seedWith(rest, 1);
            due("a day of the cost " + cost, () -> graph("K20a15", "a").simulate(seed, 1), 100_000 + cost);
        }

        under("27: if r / 16 % 8 is 0, it cannot be gone");
        for (int rest = 1; rest < 8; rest++) {
            long seed = seedWith(8, rest);
            due("it is " + rest, () -> graph("K20a15", "a").simulate(seed, 1), 100_009);
        }
        long blocked = seedWith(8, 0);
        due("it is 0", () -> graph("K20a15", "a").simulate(blocked, 1), 0);
        due("then only empty rows fit", () -> graph("K20a15", "a?").simulate(blocked, 1), 200_000);
        due("backwards neither", () -> graph("K20a15", "A").simulate(blocked, 1), 0);

        under("27: A long x starts as the seed (once)");
        StepPaths x = graph("K20a15", "a");
        due("a later day goes on", () -> x.simulate(blocked, 20), days(blocked, 20, 1));
        due("the next call begins anew", () -> x.simulate(blocked, 1), 0);
        due("the cost stays", () -> x.step(0, 3), 5);
        due("nothing is remembered", () -> x.undo(), 0);
    }

    private static void save() {
        under("28: Throws IndexOutOfBoundsException if there is no such save slot");
        bounds("slot", slot -> ring("").save(slot), 0, 1, INDEX);

        under("28: Stores the present state in a save slot. Returns the number of steps");
        due("no steps", () -> new StepPaths().save(0), 0);
        due("24 steps", () -> graph(wideGraph(), "").save(1), 24);
        StepPaths x = ring("a");
        due("slot 0", () -> x.save(0), 5);
        x.removeStep(4);
        due("slot 1", () -> x.save(1), 4);
        x.removeStep(3);
        due("slot 0 is not the state", () -> x.restore(0), 5);
        due("slot 1 is not slot 0", () -> x.restore(1), 4);
        due("a full slot takes another state", () -> x.save(0), 4);
        x.removeStep(0);
        due("the other one", () -> x.restore(0), 4);

        under("28: what is saved is all of the state");
        StepPaths y = graph(wideGraph(), ".*".repeat(20));
        y.save(1);
        write(y, "");
        y.take();
        y.exchange(0, 1);
        y.setCost(23, 1);
        y.turn(22);
        y.removeStep(0);
        due("restored", () -> y.restore(1), 24);
        due("the pattern", () -> y.about(2), 40);
        due("the sum of the costs", () -> y.about(6), 216);
        due("the kind of the first step", () -> y.step(0, 1), 0);
        due("the way of step 22", () -> y.step(22, 0), 6);
        due("the people", () -> y.about(0), 8);
    }

    private static void restore() {
        under("29: Throws IndexOutOfBoundsException if there is no such save slot");
        bounds("slot", BoundaryTest::restoredRing, 0, 1, INDEX);
        due("an empty object's slot 2", () -> new StepPaths().restore(2), INDEX);
        due("an empty object's slot -1", () -> new StepPaths().restore(-1), INDEX);

        under("29: Throws IllegalStateException if nothing has been saved in it since the last load");
        due("slot 0 at first", () -> new StepPaths().restore(0), STATE);
        due("slot 1 at first", () -> new StepPaths().restore(1), STATE);
        StepPaths x = ring("a");
        x.save(0);
        due("the other one", () -> x.restore(1), STATE);
        due("this one", () -> x.restore(0), 5);
        write(x, "K1");
        x.load();
        due("this one after load", () -> x.restore(0), STATE);
        x.save(1);
        due("this one again", () -> x.restore(0), STATE);
        due("the other one now", () -> x.restore(1), 0);

        under("29: forgets all remembered states");
        StepPaths y = ring("a");
        y.save(0);
        due("restore", () -> y.restore(0), 5);
        due("nothing to undo", () -> y.undo(), STATE);
        for (int i = 0; i < 14; i++) {
            y.exchange(0, 1);
        }
        due("restore again", () -> y.restore(0), 5);
        due("nothing to undo then", () -> y.undo(), STATE);
        y.setCost(0, 9);
        due("one action then", () -> y.undo(), 0);

        under("29: The save slot keeps it");
        y.removeStep(0);
        due("once more", () -> y.restore(0), 5);
        due("as it was", () -> y.step(0, 3), 1);
        y.setCost(0, 9);
        y.addPerson();
        due("and once more", () -> y.restore(0), 5);
        due("its cost", () -> y.step(0, 3), 1);
        due("its people", () -> y.about(0), 4);

        under("29: Replaces the state by the one in a save slot");
        StepPaths z = new StepPaths();
        z.save(0);
        z.addPerson();
        due("an empty graph", () -> z.restore(0), 0);
        due("no people", () -> z.about(0), 0);
        write(z, "abc");
        z.restore(0);
        due("the text is kept", () -> z.clearText(), 3);
    }

    private static long restoredRing(int slot) {
        StepPaths x = ring("");
        x.save(0);
        x.save(1);
        return x.restore(slot);
    }
}
