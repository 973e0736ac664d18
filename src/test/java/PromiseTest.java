// One section for each promise of the document: ordinary inputs, the edges it names, wrong inputs.
public final class PromiseTest extends Check {
    private static String repeat(String part, int times) {
        return part.repeat(times);
    }

    public static void main(String[] args) {
        newObject();
        append();
        clearText();
        errorPositionOfPatterns();
        errorPositionOfGraphs();
        load();
        about();
        step();
        person();
        find();
        patternAt();
        addPerson();
        addStep();
        removeStep();
        setCost();
        turn();
        exchange();
        take();
        undo();
        cost();
        length();
        pathAt();
        paths();
        needed();
        bestNew();
        follow();
        runScript();
        simulate();
        save();
        restore();
        end();
    }

    private static void newObject() {
        under("promise 1");
        StepPaths x = new StepPaths();
        long[] numbers = {0, 0, 0, 0, 1, 0, 0, NONE};
        for (int i = 0; i < numbers.length; i++) {
            int what = i;
            due("about " + i, () -> x.about(what), numbers[i]);
        }
        due("patternAt", () -> x.patternAt(0), NONE);
        due("step", () -> x.step(0, 0), INDEX);
        due("person", () -> x.person(0, 0), INDEX);
        due("undo", () -> x.undo(), STATE);
        due("restore 0", () -> x.restore(0), STATE);
        due("restore 1", () -> x.restore(1), STATE);
        due("clearText", () -> x.clearText(), 0);
        due("NONE", () -> StepPaths.NONE, -9);
    }

    private static void append() {
        under("promise 2");
        StepPaths x = new StepPaths();
        due("too low", () -> x.append(-1), ARGUMENT);
        due("too high", () -> x.append(256), ARGUMENT);
        due("lowest", () -> x.append(0), 1);
        due("highest", () -> x.append(255), 2);
        for (int i = 3; i <= 110; i++) {
            due("character " + i, () -> x.append('a'), i);
        }
        due("too many", () -> x.append('a'), STATE);
        due("too many and too high", () -> x.append(256), ARGUMENT);
        due("nothing changed", () -> x.clearText(), 110);
        due("again", () -> x.append('a'), 1);
        due("no action", () -> x.undo(), STATE);
    }

    private static void clearText() {
        under("promise 3");
        StepPaths x = ring("a");
        write(x, "abc");
        due("clear", () -> x.clearText(), 3);
        due("clear again", () -> x.clearText(), 0);
        due("error position", () -> x.errorPosition(false), 0);
        due("pattern stays", () -> x.about(2), 1);
        due("no action", () -> x.undo(), 0);
    }

    private static void pattern(String text, long want) {
        StepPaths x = new StepPaths();
        write(x, text);
        due("pattern " + text, () -> x.errorPosition(true), want);
        due("take " + text, () -> x.take() >= 0 ? NONE : 0, want == NONE ? Long.toString(NONE) : STATE);
    }

    private static void errorPositionOfPatterns() {
        under("promise 4");
        String[] right = {"", "|", "()", "a", ".", "abcdABCD.", "a*|b+|c?", "(a|b)*", "()*", "(|a)?b",
            "(((((((((a)))))))))", repeat("a", 20), repeat("a*", 20), repeat("|", 40), repeat("(", 9) + repeat(")", 9),
            repeat("()", 20), repeat("(a)", 13) + "|", "(a*)*", "a()+", "(()())"};
        for (String text : right) {
            pattern(text, NONE);
        }
        pattern("*", 0);
        pattern("a**", 2);
        pattern("a*+", 2);
        pattern("a+?", 2);
        pattern("(*", 1);
        pattern("|+", 1);
        pattern("a|?", 2);
        pattern("a)", 1);
        pattern(")", 0);
        pattern("(a))", 3);
        pattern("(", 1);
        pattern("(a|b", 4);
        pattern("((a)", 4);
        pattern("e", 0);
        pattern("E", 0);
        pattern("a b", 1);
        pattern("a\u0000", 1);
        pattern("a\u00e9", 1);
        pattern("K1", 0);
        pattern(repeat("a", 21), 20);
        pattern(repeat("a", 10) + "|" + repeat("a", 11), 21);
        pattern(repeat("a*", 20) + "a", 40);
        pattern(repeat("|", 41), 40);
        pattern(repeat("|", 40) + "x", 40);
        pattern(repeat("|", 50), 40);
        pattern(repeat("(", 10), 9);
        pattern(repeat("(", 9), 9);
        pattern(repeat("()", 20) + ")", 40);
        pattern(repeat("()", 19) + "((", 40);
        pattern(repeat("()", 20) + "*", 40);
        pattern(repeat("(", 9) + ")(" + "(", 11);
    }

    private static void isGraph(String text, long want) {
        StepPaths x = new StepPaths();
        write(x, text);
        due("graph " + text, () -> x.errorPosition(false), want);
        long steps = (text.length() - 2) / 4;
        due("load " + text, () -> x.load(), want == NONE ? Long.toString(steps) : STATE);
    }

    private static void errorPositionOfGraphs() {
        isGraph("K1", NONE);
        isGraph("K8", NONE);
        isGraph("K20a11", NONE);
        isGraph("K20a111a01", NONE);
        isGraph("K20a110b12", NONE);
        isGraph("K87d09", NONE);
        isGraph(fullGraph(), NONE);
        isGraph("", 0);
        isGraph("k1", 0);
        isGraph("1", 0);
        isGraph("K", 1);
        isGraph("K0", 1);
        isGraph("K9", 1);
        isGraph("KK", 1);
        isGraph("K2 ", 2);
        isGraph("K22", 2);
        isGraph("K2a", 2);
        isGraph("K20", 3);
        isGraph("K20e", 3);
        isGraph("K20A", 3);
        isGraph("K20`", 3);
        isGraph("K20.", 3);
        isGraph("K20a", 4);
        isGraph("K20a0", 4);
        isGraph("K20a2", 4);
        isGraph("K10a0", 4);
        isGraph("K20a1", 5);
        isGraph("K20a10", 5);
        isGraph("K20a1:", 5);
        isGraph("K20a11 ", 6);
        isGraph("K20a110a12", 8);
        isGraph("K20a111a010a15", 12);
        isGraph(fullGraph() + "0", 98);
        isGraph(fullGraph() + "x", 98);
        isGraph("K80a18\u00b1", 6);
    }

    private static void load() {
        under("promise 5");
        StepPaths x = ring("a");
        x.save(0);
        x.save(1);
        x.addPerson();
        write(x, "K30c15");
        due("load", () -> x.load(), 1);
        due("people", () -> x.about(0), 3);
        due("steps", () -> x.about(1), 1);
        due("from", () -> x.step(0, 0), 0);
        due("kind", () -> x.step(0, 1), 2);
        due("to", () -> x.step(0, 2), 1);
        due("cost", () -> x.step(0, 3), 5);
        due("the pattern is empty", () -> x.about(2), 0);
        due("the empty row fits", () -> x.about(4), 1);
        due("nothing is remembered", () -> x.undo(), STATE);
        due("slot 0 is empty", () -> x.restore(0), STATE);
        due("slot 1 is empty", () -> x.restore(1), STATE);
        due("the text is kept", () -> x.clearText(), 6);
        due("no graph", () -> x.load(), STATE);
        write(x, "K30c15x");
        due("a wrong end", () -> x.load(), STATE);
        due("nothing changed", () -> x.about(0), 3);
        write(x, "K20a110a11");
        due("a step twice", () -> x.load(), STATE);
        due("nothing changed then", () -> x.step(0, 1), 2);
        x.addPerson();
        x.save(1);
        due("load of no graph", () -> x.load(), STATE);
        due("the slot is kept", () -> x.save(1), 1);
        due("an action is remembered", () -> x.undo(), 0);
    }

    private static void about() {
        under("promise 6");
        StepPaths x = ring("a+b?|B");
        long[] numbers = {4, 5, 6, 3, 0, 16, 13, 4};
        for (int i = 0; i < numbers.length; i++) {
            int what = i;
            due("about " + i, () -> x.about(what), numbers[i]);
        }
        due("too low", () -> x.about(-1), ARGUMENT);
        due("too high", () -> x.about(8), ARGUMENT);
        StepPaths y = ring("");
        due("only empty rows", () -> y.about(5), 4);
        due("they cost nothing", () -> y.about(7), 0);
        due("the empty row fits", () -> y.about(4), 1);
        StepPaths z = ring("c");
        due("no pair", () -> z.about(5), 0);
        due("no cost", () -> z.about(7), NONE);
        due("the empty row fits not", () -> z.about(4), 0);
        due("no letters in ()", () -> ring("(()|a)*").about(3), 1);
        due("its length", () -> ring("(()|a)*").about(2), 7);
        due("empty by +", () -> ring("(a|)+").about(4), 1);
        due("not empty by +", () -> ring("(a)+").about(4), 0);
        due("empty parts", () -> ring("a*b?()").about(4), 1);
        due("one part is not empty", () -> ring("a*b?c").about(4), 0);
    }

    private static void step() {
        under("promise 7");
        StepPaths x = graph("K80a19" + "7d62", "");
        long[][] numbers = {{0, 0, 1, 9}, {7, 3, 6, 2}};
        for (int s = 0; s < 2; s++) {
            for (int what = 0; what < 4; what++) {
                int one = s;
                int other = what;
                due("step " + s + " " + what, () -> x.step(one, other), numbers[s][what]);
            }
        }
        due("no step", () -> x.step(2, 0), INDEX);
        due("negative step", () -> x.step(-1, 0), INDEX);
        due("no step, no number", () -> x.step(2, 4), INDEX);
        due("no number", () -> x.step(0, 4), ARGUMENT);
        due("negative number", () -> x.step(0, -1), ARGUMENT);
    }

    private static void person() {
        under("promise 8");
        StepPaths x = ring("ab|A");
        due("from 0", () -> x.person(0, 0), 2);
        due("from 2", () -> x.person(2, 0), 1);
        due("to 2", () -> x.person(2, 1), 2);
        due("to 3", () -> x.person(3, 1), 1);
        due("paths from 3", () -> x.person(3, 2), 4);
        due("paths from 0", () -> x.person(0, 2), 8);
        due("paths to 2", () -> x.person(2, 3), 8);
        due("paths to 3", () -> x.person(3, 3), 1);
        due("no path", () -> ring("c").person(0, 2), 0);
        due("no path to it", () -> ring("c").person(0, 3), 0);
        due("empty row", () -> ring("").person(3, 2), 8);
        due("empty row to it", () -> ring("").person(3, 3), 8);
        due("along the first step", () -> ring("a").person(1, 3), 1);
        due("all", () -> graph("K8", "").person(7, 2), 128);
        due("no person", () -> x.person(4, 0), INDEX);
        due("negative person", () -> x.person(-1, 0), INDEX);
        due("no person, no number", () -> x.person(4, 4), INDEX);
        due("no number", () -> x.person(0, 4), ARGUMENT);
        due("negative number", () -> x.person(0, -1), ARGUMENT);
    }

    private static void find() {
        under("promise 9");
        StepPaths x = ring("");
        due("a step", () -> x.find(3, 0, 0), 3);
        due("the shortcut", () -> x.find(0, 1, 2), 4);
        due("backwards", () -> x.find(2, 1, 0), NONE);
        due("another kind", () -> x.find(0, 3, 2), NONE);
        due("no person", () -> x.find(4, 0, 0), INDEX);
        due("no other person", () -> x.find(0, 0, 4), INDEX);
        due("negative", () -> x.find(-1, 0, 0), INDEX);
        due("other negative", () -> x.find(0, 0, -1), INDEX);
        due("no person, no kind", () -> x.find(4, 4, 4), INDEX);
        due("the same", () -> x.find(1, 0, 1), ARGUMENT);
        due("no kind", () -> x.find(0, 4, 1), ARGUMENT);
        due("negative kind", () -> x.find(0, -1, 1), ARGUMENT);
    }

    private static void patternAt() {
        under("promise 10");
        String text = repeat("(.)", 13) + "|";
        StepPaths x = ring(text);
        for (int i = 0; i < 40; i++) {
            int at = i;
            due("character " + i, () -> x.patternAt(at), text.charAt(i));
        }
        due("behind it", () -> x.patternAt(40), NONE);
        due("far behind it", () -> x.patternAt(Integer.MAX_VALUE), NONE);
        due("negative", () -> x.patternAt(-1), ARGUMENT);
        write(x, "a");
        due("not the text", () -> x.patternAt(0), '(');
        x.take();
        due("a shorter one", () -> x.patternAt(1), NONE);
    }

    private static void addPerson() {
        under("promise 11");
        StepPaths x = new StepPaths();
        for (int p = 0; p < 8; p++) {
            due("person " + p, () -> x.addPerson(), p);
        }
        due("one too many", () -> x.addPerson(), STATE);
        due("eight", () -> x.about(0), 8);
        due("without steps", () -> x.person(7, 0) + x.person(7, 1), 0);
        due("eight actions", () -> x.undo(), 7);
    }

    private static void addStep() {
        under("promise 12");
        StepPaths x = graph("K3", "");
        due("first", () -> x.addStep(0, 3, 2, 9), 0);
        due("other way", () -> x.addStep(2, 3, 0, 1), 1);
        due("other kind", () -> x.addStep(0, 0, 2, 5), 2);
        due("from", () -> x.step(0, 0), 0);
        due("kind", () -> x.step(0, 1), 3);
        due("to", () -> x.step(0, 2), 2);
        due("cost", () -> x.step(0, 3), 9);
        due("no person", () -> x.addStep(3, 0, 0, 1), INDEX);
        due("no other person", () -> x.addStep(0, 0, 3, 1), INDEX);
        due("negative", () -> x.addStep(-1, 9, -1, 0), INDEX);
        due("the same", () -> x.addStep(1, 0, 1, 1), ARGUMENT);
        due("kind 4", () -> x.addStep(0, 4, 1, 1), ARGUMENT);
        due("kind -1", () -> x.addStep(0, -1, 1, 1), ARGUMENT);
        due("cost 0", () -> x.addStep(0, 0, 1, 0), ARGUMENT);
        due("cost 10", () -> x.addStep(0, 0, 1, 10), ARGUMENT);
        due("there already", () -> x.addStep(0, 3, 2, 1), STATE);
        due("there already, no cost", () -> x.addStep(0, 3, 2, 0), ARGUMENT);
        due("three steps", () -> x.about(1), 3);
        due("four actions", () -> x.undo(), 3);
        StepPaths y = graph(fullGraph(), "");
        y.addPerson();
        due("too many", () -> y.addStep(0, 0, 3, 1), STATE);
        due("too many, no kind", () -> y.addStep(0, 4, 3, 1), ARGUMENT);
        y.removeStep(23);
        due("the last one", () -> y.addStep(0, 0, 3, 1), 23);
    }

    private static void removeStep() {
        under("promise 13");
        StepPaths x = ring("a*");
        due("remove", () -> x.removeStep(1), 4);
        due("those behind move", () -> x.find(2, 0, 3), 1);
        due("the last moves", () -> x.find(0, 1, 2), 3);
        due("its cost too", () -> x.step(3, 3), 9);
        due("those before stay", () -> x.find(0, 0, 1), 0);
        due("the sum of costs", () -> x.about(6), 12);
        due("it is gone", () -> x.find(1, 0, 2), NONE);
        due("no path now", () -> x.cost(0, 2), NONE);
        due("no step", () -> x.removeStep(4), INDEX);
        due("negative", () -> x.removeStep(-1), INDEX);
        due("the last", () -> x.removeStep(3), 3);
        due("the sum without it", () -> x.about(6), 3);
        for (int steps = 2; steps >= 0; steps--) {
            due("first of " + (steps + 1), () -> x.removeStep(0), steps);
        }
        due("none left", () -> x.removeStep(0), INDEX);
    }

    private static void setCost() {
        under("promise 14");
        StepPaths x = ring("a*");
        due("set", () -> x.setCost(2, 9), 1);
        due("set again", () -> x.setCost(2, 1), 9);
        due("set the same", () -> x.setCost(2, 1), 1);
        due("set to 7", () -> x.setCost(2, 7), 1);
        due("the sum", () -> x.about(6), 19);
        due("the path", () -> x.cost(0, 3), 9);
        due("no step", () -> x.setCost(5, 0), INDEX);
        due("negative", () -> x.setCost(-1, 1), INDEX);
        due("cost 0", () -> x.setCost(0, 0), ARGUMENT);
        due("cost 10", () -> x.setCost(0, 10), ARGUMENT);
        due("five actions", () -> x.undo(), 4);
        due("undone", () -> x.step(2, 3), 1);
    }

    private static void turn() {
        under("promise 15");
        StepPaths x = graph("K30a110b211a03", "");
        due("turn", () -> x.turn(1), 2);
        due("there", () -> x.find(2, 1, 0), 1);
        due("not there", () -> x.find(0, 1, 2), NONE);
        due("back", () -> x.turn(1), 0);
        due("one leads so", () -> x.turn(0), STATE);
        due("this one too", () -> x.turn(2), STATE);
        due("no step", () -> x.turn(3), INDEX);
        due("negative", () -> x.turn(-1), INDEX);
        due("three actions", () -> x.undo(), 2);
        due("its cost stays", () -> x.step(1, 3), 1);
    }

    private static void exchange() {
        under("promise 16");
        StepPaths x = ring("a");
        due("exchange", () -> x.exchange(0, 1), 5);
        due("kind of the ring", () -> x.step(0, 1), 1);
        due("kind of the shortcut", () -> x.step(4, 1), 0);
        due("the pattern stays", () -> x.patternAt(0), 'a');
        due("other kinds", () -> x.exchange(3, 0), 1);
        due("kind of the shortcut then", () -> x.step(4, 1), 3);
        due("no steps", () -> x.exchange(0, 2), 0);
        due("the same kind", () -> x.exchange(1, 1), 0);
        due("kind of the ring then", () -> x.step(0, 1), 1);
        due("low", () -> x.exchange(-1, 0), ARGUMENT);
        due("high", () -> x.exchange(4, 0), ARGUMENT);
        due("other low", () -> x.exchange(0, -1), ARGUMENT);
        due("other high", () -> x.exchange(0, 4), ARGUMENT);
        due("five actions", () -> x.undo(), 4);
    }

    private static void take() {
        under("promise 17");
        StepPaths x = ring("a");
        write(x, "(a|b)*");
        due("take", () -> x.take(), 2);
        due("length", () -> x.about(2), 6);
        due("the text is kept", () -> x.errorPosition(true), NONE);
        due("its length", () -> x.clearText(), 6);
        due("the pattern is kept", () -> x.patternAt(0), '(');
        due("the empty pattern", () -> x.take(), 0);
        write(x, "a**");
        due("no pattern", () -> x.take(), STATE);
        due("nothing changed", () -> x.about(2), 0);
        due("three actions", () -> x.undo(), 2);
        due("undone", () -> x.about(2), 6);
        due("and it fits", () -> x.cost(0, 2), 2);
        write(x, repeat(".*", 20));
        due("the longest", () -> x.take(), 20);
        due("fits", () -> x.cost(0, 3), 3);
        write(x, "K1");
        due("a graph", () -> x.take(), STATE);
        write(x, "a*");
        write(x, "a");
        due("a text behind which a longer one stood", () -> x.take(), 1);
        due("its * is gone", () -> x.about(4), 0);
    }

    private static void undo() {
        under("promise 18");
        StepPaths x = new StepPaths();
        x.addPerson();
        x.addPerson();
        x.addStep(0, 0, 1, 1);
        for (int i = 0; i < 20; i++) {
            x.setCost(0, 1 + i % 9);
        }
        for (int i = 13; i >= 0; i--) {
            due("undo to " + i, () -> x.undo(), i);
            due("cost then", () -> x.step(0, 3), 1 + (i + 5) % 9);
        }
        due("no more", () -> x.undo(), STATE);
        due("nothing changed", () -> x.step(0, 3), 6);
        x.exchange(0, 0);
        due("without a difference", () -> x.undo(), 0);
        StepPaths y = ring("a");
        y.removeStep(0);
        write(y, "b");
        y.take();
        y.exchange(0, 1);
        y.turn(0);
        y.addPerson();
        y.save(0);
        y.about(5);
        due("a person", () -> y.undo(), 5);
        due("four again", () -> y.about(0), 4);
        due("a turn", () -> y.undo(), 4);
        due("leads from 1 again", () -> y.step(0, 0), 1);
        due("an exchange", () -> y.undo(), 3);
        due("kind again", () -> y.step(0, 1), 0);
        due("a pattern", () -> y.undo(), 2);
        due("pattern again", () -> y.patternAt(0), 'a');
        due("a step", () -> y.undo(), 1);
        due("step again", () -> y.about(1), 5);
        due("its place", () -> y.find(0, 0, 1), 0);
        due("the first pattern", () -> y.undo(), 0);
        due("the empty one", () -> y.about(2), 0);
    }

    private static void cost() {
        under("promise 19");
        StepPaths x = ring("a*|b");
        due("cheaper around", () -> x.cost(0, 2), 2);
        due("the empty row", () -> x.cost(1, 1), 0);
        due("three", () -> x.cost(1, 0), 3);
        due("no person", () -> x.cost(0, 4), INDEX);
        due("no first person", () -> x.cost(-1, 0), INDEX);
        StepPaths y = ring("b|aaa");
        due("only the shortcut", () -> y.cost(0, 2), 9);
        due("three goings", () -> y.cost(0, 3), 3);
        due("none", () -> y.cost(0, 1), NONE);
        due("four go round", () -> ring("a+").cost(0, 0), 4);
        due("backwards", () -> ring("A").cost(1, 0), 1);
        due("not forwards", () -> ring("A").cost(0, 1), NONE);
        due("any kind", () -> ring(".").cost(0, 2), 9);
        due("any kind only forwards", () -> ring(".").cost(2, 0), NONE);
        due("over and over", () -> ring("(aaa)+").cost(0, 1), 9);
        due("more than once the same", () -> ring("aA.").cost(0, 1), 3);
        StepPaths z = graph("K80a191a292a393a494a595a696a797a09", "(" + repeat("a", 19) + ")+");
        due("the longest", () -> z.cost(0, 7), 9 * 95);
        StepPaths y2 = graph("K31a212a09", "a|aa");
        due("found before all is looked at", () -> y2.cost(1, 2), 1);
        due("then from another one", () -> y2.cost(0, 0), NONE);
    }

    private static void length() {
        under("promise 20");
        StepPaths x = ring("a*|b");
        due("around", () -> x.length(0, 2), 2);
        due("the empty row", () -> x.length(1, 1), 0);
        due("no person", () -> x.length(0, 4), INDEX);
        due("no first person", () -> x.length(4, 0), INDEX);
        due("none", () -> ring("b").length(0, 1), NONE);
        StepPaths y = graph("K40a111a210b22", ".*");
        due("fewer of the same cost", () -> y.length(0, 2), 1);
        StepPaths z = graph("K40a111a210b23", ".*");
        due("cheaper with more", () -> z.length(0, 2), 2);
        StepPaths w = graph("K80a191a292a393a494a595a696a797a09", "(" + repeat("a", 19) + ")+");
        due("the longest", () -> w.length(0, 7), 95);
    }

    private static void pathAt() {
        under("promise 21");
        StepPaths x = ring("a*|b|AB");
        due("first", () -> x.pathAt(0, 2, 0), 0);
        due("second", () -> x.pathAt(0, 2, 1), 10);
        due("behind it", () -> x.pathAt(0, 2, 2), NONE);
        due("far behind it", () -> x.pathAt(0, 2, Integer.MAX_VALUE), NONE);
        due("of the empty row", () -> x.pathAt(1, 1, 0), NONE);
        due("negative", () -> x.pathAt(0, 2, -1), ARGUMENT);
        due("no person, negative", () -> x.pathAt(4, 0, -1), INDEX);
        due("no other person", () -> x.pathAt(0, 4, 0), INDEX);
        due("backwards first", () -> ring("AB").pathAt(3, 0, 0), 21);
        due("then the shortcut", () -> ring("AB").pathAt(3, 0, 1), 41);
        due("none", () -> ring("c").pathAt(0, 1, 0), NONE);
        StepPaths lower = graph("K40b130a113a221a22", ".*");
        due("not the lower step, the cheaper path", () -> lower.pathAt(0, 2, 0), 10);
        StepPaths equal = graph("K42a310a111a310a21", "..");
        due("the lower first going", () -> equal.pathAt(0, 3, 0), 10);
        due("and what goes on from it", () -> equal.pathAt(0, 3, 1), 20);
        StepPaths both = graph("K21a010a11", "(a|A)(a|A)");
        due("the lower step, backwards", () -> both.pathAt(0, 0, 0), 1);
        due("back with the same", () -> both.pathAt(0, 0, 1), 0);
        StepPaths round = graph("K20a111a01", "aa|AA|aA|Aa");
        due("the lower step forwards", () -> round.pathAt(0, 0, 0), 0);
        due("then backwards", () -> round.pathAt(0, 0, 1), 1);
        StepPaths kinds = graph("K30a110b111c21" + "1d21", "ad|bc");
        due("only what fits goes on", () -> kinds.pathAt(0, 2, 1), 30);
        StepPaths alike = graph("K20a11", "(aA|.A)(a|.)");
        due("one row in several ways", () -> alike.pathAt(0, 1, 2), 0);
    }

    private static void paths() {
        under("promise 22");
        StepPaths x = ring("(a|.|A)*");
        due("none yet", () -> x.paths(0, 2, 0), 0);
        due("the empty row", () -> x.paths(0, 0, 0), 1);
        due("the shortcut", () -> x.paths(0, 2, 1), 1);
        due("two and over", () -> x.paths(0, 2, 2), 3);
        due("each once", () -> ring("a*a*").paths(0, 1, 1), 1);
        due("ambiguous", () -> ring("(a|.)(a|.)").paths(0, 2, 4), 1);
        due("at most n", () -> ring("a+").paths(0, 0, 3), 0);
        due("just n", () -> ring("a+").paths(0, 0, 4), 1);
        due("all of four", () -> graph(fullGraph(), "(.|A|B|C|D)*").paths(0, 0, 4), 25729);
        due("n is 5", () -> x.paths(0, 0, 5), ARGUMENT);
        due("n is -1", () -> x.paths(0, 0, -1), ARGUMENT);
        due("no person", () -> x.paths(4, 0, 5), INDEX);
        due("no other person", () -> x.paths(0, -1, 0), INDEX);
    }

    private static void needed() {
        under("promise 23");
        due("both", () -> ring("a*").needed(0, 2), 3);
        due("either", () -> ring("a*|b").needed(0, 2), 0);
        due("the empty row", () -> ring("a*").needed(0, 0), 0);
        due("all of the ring", () -> ring("a+").needed(0, 0), 15);
        due("none fits", () -> ring("c").needed(0, 2), 0);
        due("not only the best", () -> ring("(aa|b)a").needed(0, 3), 4);
        due("both directions are one step", () -> graph("K20a11", "aA|.A.A").needed(0, 0), 1);
        due("the last bit", () -> graph(fullGraph(), "D").needed(1, 2), 1 << 23);
        due("no person", () -> ring("").needed(0, 4), INDEX);
        due("no first person", () -> ring("").needed(4, 0), INDEX);
    }

    private static void bestNew() {
        under("promise 24");
        due("the empty row already", () -> ring("a*").bestNew(0, 0), 2);
        due("a cheaper one", () -> ring("a*").bestNew(0, 3), 3);
        due("used twice as another kind", () -> ring("..b").bestNew(0, 3), 13);
        due("of another kind", () -> ring("aab").bestNew(0, 3), 213);
        due("backwards", () -> ring("D").bestNew(0, 2), 230);
        due("used twice", () -> graph("K2", "aA").bestNew(0, 0), 1);
        due("nothing helps", () -> graph("K3", "aab").bestNew(0, 0), NONE);
        due("no better is the first", () -> graph("K30a11", "a").bestNew(0, 1), 2);
        due("as good is no better", () -> graph("K30a11", "a|b").bestNew(0, 1), 2);
        due("from the last person", () -> graph("K8", "b").bestNew(7, 3), 713);
        due("to the last person", () -> graph("K8", "D").bestNew(7, 6), 637);
        due("what is there does not count", () -> graph("K20a11" + "0b110c110d11", "a").bestNew(0, 1), 100);
        due("one person", () -> graph("K1", "").bestNew(0, 0), NONE);
        due("all are there", () -> graph("K20a110b110c110d111a011b011c011d01", "").bestNew(0, 0), NONE);
        due("24 steps do not matter", () -> {
            StepPaths x = graph(fullGraph(), "aa");
            x.addPerson();
            return x.bestNew(0, 3);
        }, 103);
        due("no person", () -> ring("").bestNew(4, 0), INDEX);
        due("no other person", () -> ring("").bestNew(0, -1), INDEX);
    }

    private static void follow() {
        under("promise 25");
        StepPaths x = ring("a*b?c?");
        due("one", () -> x.follow(0, 1, 0L), NONE);
        due("two", () -> x.follow(0, 2, 10L), NONE);
        due("three round", () -> x.follow(3, 3, 30_000_010L), NONE);
        due("not from there", () -> x.follow(1, 1, 0L), 1);
        due("not on from there", () -> x.follow(0, 3, 20L), 2);
        due("no such step", () -> x.follow(0, 2, 50L), 2);
        due("no step 99", () -> x.follow(0, 1, 990L), 1);
        due("another direction", () -> x.follow(0, 2, 12L), 2);
        due("direction 9", () -> x.follow(0, 1, 9L), 1);
        due("direction 2", () -> x.follow(0, 1, 2L), 1);
        due("direction 2 from the other one", () -> x.follow(1, 1, 2L), 1);
        due("backwards fits not", () -> x.follow(1, 1, 1L), 1);
        due("the shortcut", () -> x.follow(0, 1, 40L), NONE);
        due("no more behind it", () -> x.follow(0, 2, 40_020L), 2);
        StepPaths y = ring("aac|(ab)+");
        due("a beginning of c, though no step is such", () -> y.follow(0, 2, 10L), 3);
        due("a beginning", () -> y.follow(0, 1, 0L), 2);
        due("not even that", () -> y.follow(0, 3, 10_020L), 3);
        due("one that fits", () -> y.follow(3, 2, 30_040L), NONE);
        due("five goings", () -> ring("aaaaa").follow(0, 5, 10_020_030_000L), NONE);
        due("of five the last", () -> ring("aaaab").follow(0, 5, 10_020_030_000L), 5);
        due("five and more", () -> ring("aaaaaa").follow(0, 5, 10_020_030_000L), 6);
        due("backwards", () -> ring("AB").follow(3, 2, 21_041L), NONE);
        due("n is 0", () -> x.follow(0, 0, 0L), ARGUMENT);
        due("n is 6", () -> x.follow(0, 6, 0L), ARGUMENT);
        due("negative row", () -> x.follow(0, 1, -1L), ARGUMENT);
        due("four digits", () -> x.follow(0, 1, 1000L), ARGUMENT);
        due("seven digits", () -> x.follow(0, 2, 1_000_000L), ARGUMENT);
        due("sixteen digits", () -> x.follow(0, 5, 1_000_000_000_000_000L), ARGUMENT);
        due("fifteen digits", () -> x.follow(0, 5, 999_999_999_999_999L), 1);
        due("the most", () -> x.follow(0, 5, Long.MAX_VALUE), ARGUMENT);
        due("no person", () -> x.follow(4, 0, -1L), INDEX);
        due("negative person", () -> x.follow(-1, 1, 0L), INDEX);
    }

    private static void script(String pattern, int n, long script, long want) {
        StepPaths x = ring(pattern);
        due("script " + script + " with " + pattern, () -> x.runScript(n, script), want);
        due("the state stays", () -> x.about(6) * 100 + x.about(1) * 10 + x.step(0, 1), 1350);
        due("nothing is remembered", () -> x.undo(), 0);
    }

    private static void runScript() {
        under("promise 26");
        script("a*", 1, 12019, NONE);
        script("a*", 2, 12019_12018L, 1);
        script("a*", 1, 12010, 0);
        script("a*", 1, 12041, 0);
        script("a*", 1, 12021, 0);
        script("a*", 1, 12431, 0);
        script("a*", 1, 10129, 0);
        script("a*", 1, 20400, NONE);
        script("a*", 1, 20500, 0);
        script("a*", 1, 20410, 0);
        script("a*", 1, 20401, 0);
        script("a*", 2, 20400_20400L, 1);
        script("a*", 3, 20000_20000_60200L, 2);
        script("a*", 1, 30409, NONE);
        script("a*", 1, 30400, 0);
        script("a*", 1, 30411, 0);
        script("a*", 1, 30501, 0);
        script("a*", 2, 30009_60211L, 0 + NONE);
        script("a*", 2, 30009_60209L, 1);
        script("a*", 1, 40400, NONE);
        script("a*", 1, 40410, 0);
        script("a*", 1, 40401, 0);
        script("a*", 1, 49900, 0);
        script("a*", 2, 11001_40000L, 1);
        script("a*", 3, 40000_61001_60130L, 2);
        script("b*", 2, 50100_60202L, NONE);
        script("b*", 2, 50200_60202L, 1);
        script("a*", 1, 50000, NONE);
        script("a*", 1, 54000, 0);
        script("a*", 1, 50400, 0);
        script("a*", 1, 50110, 0);
        script("a*", 1, 50101, 0);
        script("a*", 1, 60000, NONE);
        script("a*", 1, 60303, NONE);
        script("a*", 1, 60302, 0);
        script("a*", 1, 60399, NONE);
        script("b", 1, 60199, 0);
        script("a*", 1, 60499, 0);
        script("a*", 1, 64099, 0);
        script("a*", 1, 70303, NONE);
        script("a*", 1, 70302, 0);
        script("a*", 1, 70313, 0);
        script("a*", 1, 70000, NONE);
        script("b", 1, 70109, 0);
        script("a*", 1, 70409, 0);
        script("a*", 1, 74009, 0);
        script("a*", 1, 80004, NONE);
        script("a*", 1, 80005, 0);
        script("aa|a", 1, 80002, NONE);
        script("aa|a", 1, 80003, 0);
        script("c", 1, 80000, NONE);
        script("c", 1, 80001, 0);
        script("a*", 1, 84000, 0);
        script("a*", 1, 80104, 0);
        script("a*", 1, 80014, 0);
        script("a*", 1, 90002, NONE);
        script("a*", 1, 90202, 0);
        script("a*", 1, 90402, 0);
        script("c", 1, 90002, 0);
        script("a*", 1, 90502, 0);
        script("a*", 1, 90042, 0);
        script("(aa|b)a", 1, 90203, NONE);
        script("(aa|b)a", 1, 90103, 0);
        script("(aa|b)a", 1, 90403, 0);
        script("b+B?", 1, 60208, 0);
        script("b+B?", 1, 60209, NONE);
        script("b.a", 1, 60311, 0);
        script("ba", 1, 60310, NONE);
        script("ba", 1, 60309, 0);
        script("baaa", 1, 60211, 0);
        script("baaaa", 1, 60213, NONE);
        script("baaaa", 1, 60212, 0);
        script("a*", 1, 90004, 0);
        script("a*", 1, 90000, 0);
        script("a*", 1, 0, 0);
        script("a*", 1, 9999, 0);
        script("a*", 2, 80004, 0);
        script("a*", 3, 80004_80004_80005L, 2);
        StepPaths x = ring("a");
        due("n is 0", () -> x.runScript(0, 0L), ARGUMENT);
        due("n is 4", () -> x.runScript(4, 0L), ARGUMENT);
        due("negative", () -> x.runScript(1, -1L), ARGUMENT);
        due("six digits", () -> x.runScript(1, 100000L), ARGUMENT);
        due("eleven digits", () -> x.runScript(2, 10_000_000_000L), ARGUMENT);
        due("sixteen digits", () -> x.runScript(3, 1_000_000_000_000_000L), ARGUMENT);
        due("fifteen digits", () -> x.runScript(3, 999_999_999_999_999L), 0);
        due("a full graph", () -> graph(fullGraph(), "").runScript(2, 12019_20000L), 0);
        due("step 23 is there", () -> graph(fullGraph(), "").runScript(2, 22300_22300L), 1);
        due("its cost", () -> graph(fullGraph(), "d").runScript(3, 32304_62104_62103L), 2);
        due("step 21 is needed", () -> graph(fullGraph(), "b").runScript(2, 92121_92221L), 1);
        due("turned when the other one is gone", () -> graph(fullGraph(), "b").runScript(3, 21300_42000_92012L), NONE);
        due("not turned before that", () -> graph(fullGraph(), "b").runScript(1, 42100L), 0);
        due("no people", () -> new StepPaths().runScript(1, 60000L), 0);
    }

    /** The days as the document tells them, for one step between two people and the pattern a. */
    private static long daysOfOneStep(long seed, int days) {
        long x = seed;
        long pairs = 0;
        long costs = 0;
        for (int day = 0; day < days; day++) {
            x = x * 6364136223846793005L + 1442695040888963407L;
            int r = (int) (x >>> 33);
            if (r / 16 % 8 != 0) {
                pairs++;
                costs += 1 + r % 9;
            }
        }
        return 100000 * pairs + costs;
    }

    private static void simulate() {
        under("promise 27");
        StepPaths x = graph("K20a15", "a");
        long[] seeds = {0, 1, -1, 4, Long.MIN_VALUE, Long.MAX_VALUE, 123456789L};
        for (long seed : seeds) {
            for (int days = 1; days <= 20; days++) {
                int m = days;
                due("seed " + seed + " days " + days, () -> x.simulate(seed, m), daysOfOneStep(seed, days));
            }
        }
        due("the cost stays", () -> x.step(0, 3), 5);
        due("the empty row", () -> graph("K8", "").simulate(0L, 20), 16_000_000);
        due("no people", () -> new StepPaths().simulate(7L, 20), 0);
        due("no days", () -> x.simulate(0L, 0), ARGUMENT);
        due("too many days", () -> x.simulate(0L, 21), ARGUMENT);
        due("nothing is remembered", () -> x.undo(), 0);
    }

    private static void save() {
        under("promise 28");
        StepPaths x = ring("a");
        due("slot 0", () -> x.save(0), 5);
        due("slot 1", () -> x.save(1), 5);
        due("slot 2", () -> x.save(2), INDEX);
        due("slot -1", () -> x.save(-1), INDEX);
        x.removeStep(0);
        due("again", () -> x.save(1), 4);
        due("slot 0 is another", () -> x.restore(0), 5);
        due("slot 1", () -> x.restore(1), 4);
        x.addPerson();
        x.save(0);
        due("no action", () -> x.undo(), 0);
    }

    private static void restore() {
        under("promise 29");
        StepPaths x = ring("a*");
        due("slot 2", () -> x.restore(2), INDEX);
        due("slot -1", () -> x.restore(-1), INDEX);
        due("empty", () -> x.restore(1), STATE);
        due("still remembered", () -> x.undo(), 0);
        write(x, "a*");
        x.take();
        x.save(1);
        x.removeStep(4);
        x.addPerson();
        x.setCost(0, 9);
        write(x, "b");
        x.take();
        due("restore", () -> x.restore(1), 5);
        due("people", () -> x.about(0), 4);
        due("cost", () -> x.step(0, 3), 1);
        due("pattern", () -> x.about(2), 2);
        due("path", () -> x.cost(0, 2), 2);
        due("nothing is remembered", () -> x.undo(), STATE);
        due("the text stays", () -> x.clearText(), 1);
        x.setCost(0, 7);
        due("the slot keeps it", () -> x.restore(1), 5);
        due("cost again", () -> x.step(0, 3), 1);
        due("slot 0 is empty", () -> x.restore(0), STATE);
    }
}
