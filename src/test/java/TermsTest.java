import java.util.function.IntUnaryOperator;
import java.util.function.ToIntFunction;

// The section "Terms" of the document, sentence by sentence: a test for each boundary that it names.
public final class TermsTest extends Check {
    private static final String LETTERS = "abcdABCD";

    public static void main(String[] args) {
        peopleAndSteps();
        noStepTwice();
        charactersOfPatterns();
        sizesOfPatterns();
        shapesOfPatterns();
        branches();
        endings();
        letters();
        pathsOfRows();
        costsOfPaths();
        bestPaths();
        goingsOfBestPaths();
        sizesOfTexts();
        headsOfGraphs();
        stepsOfGraphs();
        errorPositions();
        whatActionsChange();
        everyActionIsRemembered();
        nothingElseIsAnAction();
        statesRemembered();
        lastCalls();
        end();
    }

    // ---- people and steps

    private static void peopleAndSteps() {
        under("There are at most 8 people");
        StepPaths full = graph("K8", "");
        due("eight", () -> full.about(0), 8);
        due("a ninth", () -> full.addPerson(), STATE);
        due("still eight", () -> full.about(0), 8);
        due("the eighth", () -> graph("K7", "").addPerson(), 7);
        due("a graph of eight", () -> text("K8").errorPosition(false), NONE);
        due("a graph of nine", () -> text("K9").errorPosition(false), 1);

        under("numbered from 0");
        due("person -1", () -> full.person(-1, 0), INDEX);
        due("person 0", () -> full.person(0, 0), 0);
        due("person 7", () -> full.person(7, 0), 0);
        due("person 8", () -> full.person(8, 0), INDEX);

        under("A step leads from a person to another one");
        due("from 0 to 1", () -> graph("K2", "").addStep(0, 0, 1, 1), 0);
        due("from 1 to 1", () -> graph("K2", "").addStep(1, 0, 1, 1), ARGUMENT);
        due("in a graph", () -> text("K20a01").errorPosition(false), 4);

        under("is of a kind from 0 to 3");
        due("kind -1", () -> graph("K2", "").addStep(0, -1, 1, 1), ARGUMENT);
        due("kind 0", () -> graph("K2", "").addStep(0, 0, 1, 1), 0);
        due("kind 3", () -> graph("K2", "").addStep(0, 3, 1, 1), 0);
        due("kind 4", () -> graph("K2", "").addStep(0, 4, 1, 1), ARGUMENT);

        under("has a cost from 1 to 9");
        due("cost 0", () -> graph("K2", "").addStep(0, 0, 1, 0), ARGUMENT);
        due("cost 1", () -> graph("K2", "").addStep(0, 0, 1, 1), 0);
        due("cost 9", () -> graph("K2", "").addStep(0, 0, 1, 9), 0);
        due("cost 10", () -> graph("K2", "").addStep(0, 0, 1, 10), ARGUMENT);

        under("There are at most 24 steps");
        StepPaths wide = graph(wideGraph().substring(0, 2 + 4 * 23), "");
        due("the 24th", () -> wide.addStep(7, 3, 0, 1), 23);
        due("a 25th", () -> wide.addStep(6, 3, 0, 1), STATE);
        due("still 24", () -> wide.about(1), 24);
        wide.removeStep(0);
        due("after one went", () -> wide.addStep(6, 3, 0, 1), 23);

        under("numbered from 0 in the order in which they were added");
        StepPaths x = graph("K32d15", "");
        due("the one of the graph", () -> x.find(2, 3, 1), 0);
        due("the next one", () -> x.addStep(0, 0, 1, 1), 1);
        due("and the next one", () -> x.addStep(0, 0, 2, 1), 2);
        due("the second one", () -> x.find(0, 0, 1), 1);
    }

    private static void noStepTwice() {
        under("no two steps have the same kind and lead from the same person to the same other one");
        StepPaths x = graph("K30b12", "");
        due("the same", () -> x.addStep(0, 1, 1, 2), STATE);
        due("the same with another cost", () -> x.addStep(0, 1, 1, 3), STATE);
        due("another kind", () -> x.addStep(0, 2, 1, 2), 1);
        due("another way", () -> x.addStep(1, 1, 0, 2), 2);
        due("to another one", () -> x.addStep(0, 1, 2, 2), 3);
        due("from another one", () -> x.addStep(2, 1, 1, 2), 4);
        due("turned", () -> x.turn(0), STATE);
        due("in a graph", () -> text("K30b120b13").errorPosition(false), 8);
    }

    // ---- what is a pattern

    private static void isPattern(String pattern, long want) {
        due("pattern " + pattern, () -> text(pattern).errorPosition(true), want);
    }

    private static void charactersOfPatterns() {
        under("sign = one of a b c d, one of A B C D, \".\", or \"(\" pattern \")\"");
        for (int c = 0; c < 256; c++) {
            String letter = String.valueOf((char) c);
            boolean single = "abcdABCD.|".indexOf(c) >= 0;
            isPattern(letter, single ? NONE : c == '(' ? 1 : 0);
            boolean behindLetter = single || "*+?".indexOf(c) >= 0;
            isPattern("a" + letter, behindLetter ? NONE : c == '(' ? 2 : 1);
        }
    }

    private static void sizesOfPatterns() {
        under("A pattern is a text of at most 40 characters");
        isPattern("|".repeat(39), NONE);
        isPattern("|".repeat(40), NONE);
        isPattern("|".repeat(41), 40);
        due("take 40", () -> text("|".repeat(40)).take(), 0);
        due("take 41", () -> text("|".repeat(41)).take(), STATE);

        under("There may be at most 20 signs that are no parentheses");
        for (char c : "aD.".toCharArray()) {
            String letter = String.valueOf(c);
            isPattern(letter.repeat(20), NONE);
            isPattern(letter.repeat(21), 20);
        }
        isPattern("a*".repeat(18) + "ab", NONE);
        isPattern("()".repeat(10) + "a".repeat(20), NONE);
        isPattern("a".repeat(20) + "()".repeat(10), NONE);
        isPattern("()".repeat(5) + "a".repeat(21), 30);
        isPattern("a".repeat(20) + "|A", 21);
        isPattern("a".repeat(20) + "(.", 21);
        isPattern("a".repeat(20) + "*|()+", NONE);
        for (String ending : new String[] {"*", "+"}) {
            StepPaths x = graph("K40b111b212b31", "a?".repeat(19) + "b" + ending);
            due("the 20th, again and again", () -> x.cost(0, 3), 3);
            due("its going", () -> x.pathAt(0, 3, 2), 20);
        }
        due("the 20th behind 19", () -> graph("K20a11", "aA".repeat(9) + "aA").pathAt(0, 0, 19), 1);

        under("at most 9 parentheses may be open at one time");
        isPattern("(".repeat(8) + ")".repeat(8), NONE);
        isPattern("(".repeat(9) + ")".repeat(9), NONE);
        isPattern("(".repeat(10) + ")".repeat(10), 9);
        isPattern("(".repeat(9) + ")(" + ")".repeat(9), NONE);
        isPattern("(".repeat(9) + ")((" + ")".repeat(9), 11);
        isPattern("()".repeat(20), NONE);
        fits("(".repeat(8) + "a(b|c)" + ")".repeat(8), "ab", "ac");
        fitsNot("(".repeat(8) + "a(b|c)" + ")".repeat(8), "a", "b", "c");
        fits("(".repeat(8) + "a(bc)+" + ")".repeat(8), "abc", "abcbc");
        due("nine open ones", () -> graph("K20a15", "(".repeat(9) + "a" + ")".repeat(9)).cost(0, 1), 5);
    }

    private static void shapesOfPatterns() {
        under("part = sign [ \"*\" | \"+\" | \"?\" ]");
        for (String ending : new String[] {"*", "+", "?"}) {
            isPattern("a" + ending, NONE);
            isPattern("." + ending, NONE);
            isPattern("(a)" + ending, NONE);
            isPattern("()" + ending, NONE);
            isPattern(ending, 0);
            isPattern("(" + ending + ")", 1);
            isPattern("a|" + ending, 2);
            isPattern("a" + ending + "*", 2);
            isPattern("a" + ending + "+", 2);
            isPattern("a" + ending + "?", 2);
            isPattern("(a" + ending + ")" + ending, NONE);
        }

        under("A branch may have no parts");
        for (String pattern : new String[] {"", "|", "||", "()", "a|", "|a", "a||b", "(|)", "(a|)", "()()", "(())"}) {
            isPattern(pattern, NONE);
            due("the empty row fits " + pattern, () -> graph("K1", pattern).about(4), 1);
        }
        due("a branch without parts beside others", () -> graph("K30a150b26", "a|").cost(0, 1), 5);
        due("and only it fits", () -> graph("K30a150b26", "a|").cost(0, 2), NONE);

        under("At first, and after load(), the pattern is the empty text");
        due("at first", () -> new StepPaths().about(2), 0);
        due("at first it is the empty row's", () -> new StepPaths().about(4), 1);
        StepPaths x = graph("K20a15", "a");
        write(x, "K20a15");
        due("load", () -> x.load(), 1);
        due("after load", () -> x.about(2), 0);
        due("after load no character is there", () -> x.patternAt(0), NONE);
        due("after load the empty row fits", () -> x.about(4), 1);
        due("after load nothing else fits", () -> x.cost(0, 1), NONE);
    }

    // ---- what fits a pattern

    /** Two people and all steps between them: every row of letters can be gone from 0, by just one path. */
    private static StepPaths allRows(String pattern) {
        return graph("K20a110b110c110d111a011b011c011d01", pattern);
    }

    private static long rowOf(String letters) {
        long row = 0;
        for (int i = 0; i < letters.length(); i++) {
            int letter = LETTERS.indexOf(letters.charAt(i));
            int direction = letter / 4;
            int lower = i % 2 == direction ? 0 : 4;
            row = 1000 * row + 10 * (lower + letter % 4) + direction;
        }
        return row;
    }

    private static void fits(String pattern, String... rows) {
        for (String row : rows) {
            due("row \"" + row + "\" in " + pattern, () -> followed(pattern, row), NONE);
        }
    }

    private static void fitsNot(String pattern, String... rows) {
        for (String row : rows) {
            due("row \"" + row + "\" not in " + pattern, () -> followed(pattern, row) == NONE ? 1 : 0, 0);
        }
    }

    private static long followed(String pattern, String row) {
        StepPaths x = allRows(pattern);
        return row.isEmpty() ? (x.about(4) == 1 ? NONE : 0) : x.follow(0, row.length(), rowOf(row));
    }

    private static void branches() {
        under("A row of goings fits a pattern if it fits one of its branches");
        fits("ab|c|D", "ab", "c", "D");
        fitsNot("ab|c|D", "", "a", "b", "ac", "abc", "cD", "d", "C");
        fits("a||b", "", "a", "b");

        under("It fits a branch if it can be cut into rows that fit its parts, one after the other");
        fits("abC", "abC");
        fitsNot("abC", "", "ab", "bC", "baC", "abc", "abCa");
        fits("a*ab", "ab", "aab", "aaaab");
        fitsNot("a*ab", "b", "aa");
        fits("a?a?a", "a", "aa", "aaa");
        fitsNot("a?a?a", "", "aaaa");
        fits("(a|ab)(c|bc)", "ac", "abc", "abbc");
        fitsNot("(a|ab)(c|bc)", "a", "c", "bc", "aac", "abab", "acc", "cbc");
        fitsNot("ab(c|d)", "c", "d", "bc", "abcd");

        under("a pattern in parentheses if it fits this pattern");
        fits("(ab|c)", "ab", "c");
        fits("()", "");
        fits("a()b", "ab");
        fits("(a(b|)|d)c", "abc", "ac", "dc");
        fitsNot("(a(b|)|d)c", "c", "abdc", "dbc");
    }

    private static void endings() {
        under("It fits a part without an ending if it fits its sign");
        fits("a", "a");
        fitsNot("a", "", "aa", "b");

        under("with \"*\" if it can be cut into any number of rows (perhaps none) that fit its sign");
        fits("a*", "", "a", "aa", "aaaaa");
        fitsNot("a*", "b", "ab", "aaaab");
        fits("(ab)*", "", "ab", "abab");
        fitsNot("(ab)*", "a", "aba", "abb");
        fits("(a*b?)*", "", "b", "bb", "abba");
        fits("()*", "");

        under("with \"+\" the same with at least one");
        fits("a+", "a", "aa", "aaaaa");
        fitsNot("a+", "", "b", "aab");
        fits("(ab)+", "ab", "abab");
        fitsNot("(ab)+", "", "aba");
        fits("(a?)+", "", "a", "aaa");
        fits("()+", "");

        under("with \"?\" if it is empty or fits its sign");
        fits("a?", "", "a");
        fitsNot("a?", "aa", "b");
        fits("(ab+)?", "", "ab", "abbb");
        fitsNot("(ab+)?", "a", "abab");
        fits("()?", "");
    }

    private static void letters() {
        under("It fits a letter or \".\" if it is one going as told");
        for (int i = 0; i < 8; i++) {
            for (int j = 0; j < 8; j++) {
                String letter = LETTERS.substring(i, i + 1);
                String row = LETTERS.substring(j, j + 1);
                if (i == j) {
                    fits(letter, row);
                } else {
                    fitsNot(letter, row);
                }
            }
        }
        fits(".", "a", "b", "c", "d");
        fitsNot(".", "", "A", "B", "C", "D", "ab");
        fits("..", "ad");
    }

    // ---- paths

    private static void pathsOfRows() {
        under("A path from a person to a person (perhaps the same)");
        due("round", () -> ring("a+").cost(0, 0), 4);
        due("there and back", () -> graph("K20a13", "aA").cost(0, 0), 6);

        under("the first one begins at the first person");
        due("it does not", () -> graph("K31a210a21", "a").cost(0, 2), 1);
        due("only from another one", () -> graph("K31a21", "a").cost(0, 2), NONE);

        under("each next one begins where the one before it ends");
        due("it does not", () -> graph("K40a112b31", "ab").cost(0, 3), NONE);
        due("backwards it does", () -> graph("K30a112b11", "aB").cost(0, 2), 2);
        due("backwards it does not", () -> graph("K30a111b21", "aB").cost(0, 2), NONE);

        under("the last one ends at the last person");
        due("it does not", () -> graph("K30a11", "a").cost(0, 2), NONE);
        due("one going too far", () -> ring("aa").cost(0, 1), NONE);

        under("the empty row is a path from each person to itself");
        StepPaths alone = graph("K8", "");
        for (int p = 0; p < 8; p++) {
            int one = p;
            due("cost from " + p, () -> alone.cost(one, one), 0);
            due("length from " + p, () -> alone.length(one, one), 0);
            due("people from " + p, () -> alone.person(one, 2), 1 << p);
        }
        due("only to itself", () -> alone.cost(0, 1), NONE);
        due("the empty row that fits not", () -> graph("K2", "a").cost(0, 0), NONE);

        under("People and steps may come more than once");
        StepPaths again = graph("K20a13", "aAaAa");
        due("five times", () -> again.cost(0, 1), 15);
        due("the last one", () -> again.pathAt(0, 1, 4), 0);
        due("the one before", () -> again.pathAt(0, 1, 3), 1);
        due("three times round", () -> ring("a".repeat(12)).cost(1, 1), 12);
    }

    private static void costsOfPaths() {
        under("Its cost is that of its goings together (of a going: that of its step)");
        due("none", () -> ring("").cost(0, 0), 0);
        due("the least", () -> graph("K20a11", "a").cost(0, 1), 1);
        due("one", () -> graph("K20a19", "a").cost(0, 1), 9);
        due("backwards", () -> graph("K20a19", "A").cost(1, 0), 9);
        due("two", () -> graph("K30a192b13", "aB").cost(0, 2), 12);
        StepPaths far = graph("K80a191a292a393a494a595a696a797a09", "(" + "a".repeat(19) + ")+");
        due("the dearest", () -> far.cost(0, 0), 9 * 152);
        due("its length", () -> far.length(0, 0), 152);
        due("its last going", () -> far.pathAt(0, 0, 151), 70);
        due("none behind it", () -> far.pathAt(0, 0, 152), NONE);
    }

    private static void bestPaths() {
        under("The best path is the one that fits and has the lowest cost");
        StepPaths cheap = graph("K40b130a111a212a31", "b|aaa");
        due("cost", () -> cheap.cost(0, 3), 3);
        due("the one of three", () -> cheap.length(0, 3), 3);
        due("its first going", () -> cheap.pathAt(0, 3, 0), 10);
        due("only if it fits", () -> graph("K30a111a210b29", "b").cost(0, 2), 9);

        under("of several the one with the fewest goings");
        StepPaths few = graph("K30a111a210b22", ".*");
        due("cost", () -> few.cost(0, 2), 2);
        due("one going", () -> few.length(0, 2), 1);
        due("not the lower step", () -> few.pathAt(0, 2, 0), 20);

        under("of several the one whose first going is first");
        StepPaths first = graph("K41a310a112a310a21", "..");
        due("the first going", () -> first.pathAt(0, 3, 0), 10);
        due("then not the lowest step", () -> first.pathAt(0, 3, 1), 0);

        under("then the second one, and so on");
        StepPaths second = graph("K41b310a111a312a310a22", "..*");
        due("the second going", () -> second.pathAt(0, 3, 1), 0);
        due("of two branches the first", () -> graph("K30a111b211c21", "ab|ac").pathAt(0, 2, 1), 10);
        due("of two branches the second", () -> graph("K30a111c211b21", "ab|ac").pathAt(0, 2, 1), 10);
        StepPaths third = graph("K40a111a212c312b31", "a..");
        due("the third going", () -> third.pathAt(0, 3, 2), 20);

        under("a going with a lower step is first");
        due("forwards and lower", () -> graph("K20b110a11", "a|b").pathAt(0, 1, 0), 0);
        due("backwards and lower", () -> graph("K21a010a11", "a|A").pathAt(0, 1, 0), 1);
        due("forwards and lower than backwards", () -> graph("K20a111a01", "a|A").pathAt(0, 1, 0), 0);

        under("A path fits if its goings fit the pattern");
        due("not the lower step of another branch", () -> graph("K30c111b211d21", "ab|cd").pathAt(0, 2, 1), 20);
        due("nor one of the branch before", () -> graph("K30a111d211b21", "cd|ab").pathAt(0, 2, 1), 20);
    }

    private static void goingsOfBestPaths() {
        under("Its cost is that of its goings together, as many as its length tells, one behind the other");
        for (String pattern : new String[] {"(.|A)*", "(a|b)*(c|C)", "(a.|B?c)+", "(a+b|.c)*D*", ".?.?.?.?.?"}) {
            for (int pair = 0; pair < 64; pair++) {
                goingsBetween(pattern, pair / 8, pair % 8);
            }
        }
    }

    private static void goingsBetween(String pattern, int p, int q) {
        StepPaths x = graph(wideGraph(), pattern);
        for (int s = 0; s < 24; s++) {
            x.setCost(s, 1 + 5 * s * s % 9);
        }
        String path = pattern + " from " + p + " to " + q;
        int length = x.length(p, q);
        int here = length < 0 ? q : p;
        int cost = length < 0 ? StepPaths.NONE : 0;
        for (int i = 0; i < length; i++) {
            int going = x.pathAt(p, q, i);
            int begin = here;
            due(path + ", begin of going " + i, () -> x.step(going / 10, 2 * (going % 10)), begin);
            here = x.step(going / 10, 2 - 2 * (going % 10));
            cost += x.step(going / 10, 3);
        }
        due(path + ", its end", Integer.toString(here), Integer.toString(q));
        due(path + ", its cost", () -> x.cost(p, q), cost);
    }

    // ---- text

    private static void sizesOfTexts() {
        under("The object has a text buffer of at most 110 characters");
        StepPaths x = text("a".repeat(109));
        due("the 110th", () -> x.append('a'), 110);
        due("a 111th", () -> x.append('a'), STATE);
        due("110 stay", () -> x.clearText(), 110);
    }

    private static void isGraph(String graph, long want) {
        due("graph " + graph, () -> text(graph).errorPosition(false), want);
    }

    private static void headsOfGraphs() {
        under("A graph is the letter K");
        for (int c = 0; c < 256; c++) {
            isGraph((char) c + "2", c == 'K' ? NONE : 0);
        }

        under("a digit from 1 to 8 for the number of people");
        for (int c = 0; c < 256; c++) {
            isGraph("K" + (char) c, c >= '1' && c <= '8' ? NONE : 1);
        }

        under("four characters for each step, at most 24");
        isGraph("K2", NONE);
        isGraph("K20a11", NONE);
        isGraph(wideGraph().substring(0, 94), NONE);
        isGraph(wideGraph(), NONE);
        isGraph(wideGraph() + "7d01", 98);
        isGraph(wideGraph() + "7", 98);
        due("no step", () -> text("K2").load(), 0);
        due("24 steps", () -> text(wideGraph()).load(), 24);
        due("25 steps", () -> text(wideGraph() + "7d01").load(), STATE);
    }

    private static void stepsOfGraphs() {
        for (int c = 0; c < 256; c++) {
            char letter = (char) c;
            under("a digit for a person");
            isGraph("K3" + letter, c >= '0' && c <= '2' ? 3 : 2);
            isGraph("K8" + letter, c >= '0' && c <= '7' ? 3 : 2);
            isGraph("K1" + letter, c == '0' ? 3 : 2);
            under("a letter from a to d for the kind");
            isGraph("K30" + letter, c >= 'a' && c <= 'd' ? 4 : 3);
            under("a digit for another person");
            isGraph("K30a" + letter, c == '1' || c == '2' ? 5 : 4);
            isGraph("K87a" + letter, c >= '0' && c <= '6' ? 5 : 4);
            isGraph("K10a" + letter, 4);
            under("a digit from 1 to 9 for the cost");
            isGraph("K30a1" + letter, c >= '1' && c <= '9' ? NONE : 5);
        }

        under("no step twice (the third character of one that is there already is not allowed)");
        isGraph("K30a110a1", 8);
        isGraph("K30a110a11", 8);
        isGraph("K30a110a12", 8);
        isGraph("K30a111b210a12", 12);
        isGraph(fullGraph().substring(0, 94) + "0a11", 96);
        isGraph("K30a110a21", NONE);
        isGraph("K30a110b11", NONE);
        isGraph("K30a111a01", NONE);
        isGraph("K30a112a11", NONE);

        under("There are no blanks");
        isGraph(" K2", 0);
        isGraph("K 2", 1);
        isGraph("K2 ", 2);
        isGraph("K2 0a11", 2);
        isGraph("K20 a11", 3);
        isGraph("K20a 11", 4);
        isGraph("K20a1 1", 5);
        isGraph("K20a11\n", 6);
        isPattern(" ", 0);
        isPattern("a b", 1);
        isPattern("a *", 1);
        isPattern("a|\tb", 2);
    }

    private static void errorPositions() {
        under("the index of the first character that the rules do not allow at its place");
        isGraph("xy", 0);
        isGraph("K0x", 1);
        isGraph("K20a00", 4);
        isGraph("K20a1x0a11", 5);
        isPattern("e*)", 0);
        isPattern("a)*e", 1);
        isPattern("(a|*))", 3);

        under("if the text ends too soon, it is the length of the text");
        isGraph("", 0);
        isGraph("K", 1);
        isGraph("K2", NONE);
        isGraph("K20", 3);
        isGraph("K20a", 4);
        isGraph("K20a1", 5);
        isGraph("K20a11", NONE);
        isGraph("K20a111", 7);
        isPattern("", NONE);
        isPattern("(", 1);
        isPattern("(a", 2);
        isPattern("(a|", 3);
        isPattern("((a)", 4);
        isPattern("(".repeat(9), 9);
        isPattern("()".repeat(19) + "(a", 40);

        under("a \"*\", \"+\" or \"?\" is allowed just behind a sign, that is a letter, \".\" or \")\"");
        isPattern("a*b+C?", NONE);
        isPattern(".*.+.?", NONE);
        isPattern("(a)*(a)+(a)?", NONE);
        isPattern("()+", NONE);
        isPattern("?", 0);
        isPattern("(+", 1);
        isPattern("a|*", 2);
        isPattern("a?*", 2);

        under("a \")\" if a parenthesis is open");
        isPattern(")", 0);
        isPattern("a)", 1);
        isPattern("()", NONE);
        isPattern("())", 2);
        isPattern("(()", 3);
        isPattern("(())", NONE);
        isPattern("(()))", 4);

        under("the 41st character is not allowed");
        isPattern("a*".repeat(20), NONE);
        isPattern("a*".repeat(20) + "|", 40);
        isPattern("()".repeat(20) + "?", 40);
        isPattern("()".repeat(20) + "()", 40);
        isPattern("|".repeat(110), 40);
        isPattern("|".repeat(39) + "*" + "|", 39);
    }

    // ---- actions and undo

    private static void whatActionsChange() {
        under("the state, which consists of everything but the text and the save slots");
        StepPaths x = ring("a");
        write(x, "b*");
        x.take();
        write(x, "abc");
        x.undo();
        due("the pattern went back", () -> x.patternAt(0), 'a');
        due("the text did not", () -> x.clearText(), 3);
        x.addPerson();
        x.save(0);
        x.undo();
        due("the people went back", () -> x.about(0), 4);
        due("the slot did not", () -> x.restore(0), 5);
        due("its people", () -> x.about(0), 5);
    }

    private static void isRemembered(String name, ToIntFunction<StepPaths> action) {
        StepPaths x = ring("a");
        write(x, "a");
        action.applyAsInt(x);
        due(name, () -> x.undo(), 1);
        due(name + " taken back", () -> x.about(0) * 1000 + x.about(6) * 10 + x.about(2), 4131);
        due(name + ", and the one before it", () -> x.undo(), 0);
    }

    private static void everyActionIsRemembered() {
        under("Each call of one of them that does not throw an exception is an action");
        isRemembered("addPerson", x -> x.addPerson());
        isRemembered("addStep", x -> x.addStep(0, 3, 1, 2));
        isRemembered("removeStep", x -> x.removeStep(0));
        isRemembered("setCost", x -> x.setCost(0, 2));
        isRemembered("turn", x -> x.turn(0));
        isRemembered("exchange", x -> x.exchange(0, 1));
        isRemembered("take", x -> x.take());

        under("also if nothing becomes different");
        isRemembered("setCost to the cost it has", x -> x.setCost(0, 1));
        isRemembered("exchange of a kind with itself", x -> x.exchange(0, 0));
        isRemembered("exchange of kinds without steps", x -> x.exchange(2, 3));
        isRemembered("take of the pattern that is there", x -> x.take());

        under("undo is none");
        StepPaths x = ring("a");
        x.setCost(0, 2);
        x.setCost(0, 3);
        due("once", () -> x.undo(), 2);
        due("then", () -> x.step(0, 3), 2);
        due("twice", () -> x.undo(), 1);
        due("not back to the second", () -> x.step(0, 3), 1);

        under("Before each action, the state is remembered");
        StepPaths y = new StepPaths();
        due("the first action", () -> y.addPerson(), 0);
        due("taken back", () -> y.undo(), 0);
        due("as at first", () -> y.about(0), 0);
    }

    private static void isNoAction(String name, ToIntFunction<StepPaths> call) {
        StepPaths x = ring("a");
        call.applyAsInt(x);
        due(name, () -> x.undo(), 0);
    }

    private static void nothingElseIsAnAction() {
        under("the methods outside the section actions are no actions");
        isNoAction("append", x -> x.append('a'));
        isNoAction("clearText", x -> x.clearText());
        isNoAction("errorPosition", x -> x.errorPosition(true) + x.errorPosition(false));
        isNoAction("about", x -> x.about(7));
        isNoAction("step", x -> x.step(0, 0));
        isNoAction("person", x -> x.person(0, 3));
        isNoAction("find", x -> x.find(0, 0, 1));
        isNoAction("patternAt", x -> x.patternAt(0));
        isNoAction("cost", x -> x.cost(0, 1));
        isNoAction("length", x -> x.length(0, 1));
        isNoAction("pathAt", x -> x.pathAt(0, 1, 0));
        isNoAction("paths", x -> x.paths(0, 1, 4));
        isNoAction("needed", x -> x.needed(0, 1));
        isNoAction("bestNew", x -> x.bestNew(0, 1));
        isNoAction("follow", x -> x.follow(0, 1, 0L));
        isNoAction("runScript", x -> x.runScript(1, 20000L));
        isNoAction("simulate", x -> x.simulate(1L, 20));
        isNoAction("save", x -> x.save(0));

        under("load and restore are not actions");
        StepPaths loaded = text("K2");
        loaded.load();
        due("load", () -> loaded.undo(), STATE);
        StepPaths restored = text("K2");
        restored.save(0);
        restored.restore(0);
        due("restore", () -> restored.undo(), STATE);
    }

    /** Does actions, each of which gives step 0 another cost than it had, and tells what undo answers. */
    private static StepPaths after(int actions, IntUnaryOperator costs) {
        StepPaths x = text("K20a15");
        x.load();
        for (int i = 0; i < actions; i++) {
            x.setCost(0, costs.applyAsInt(i));
        }
        return x;
    }

    private static void statesRemembered() {
        under("At most 14 states are remembered");
        int[] actions = {0, 1, 2, 13, 14, 15, 16, 27, 28, 29, 30, 100};
        for (int n : actions) {
            StepPaths x = after(n, i -> 1 + i % 9);
            int remembered = Math.min(n, 14);
            for (int left = remembered - 1; left >= 0; left--) {
                due("of " + n + " actions", () -> x.undo(), left);
                int last = n - (remembered - left) - 1;
                due("of " + n + " actions, the cost", () -> x.step(0, 3), last < 0 ? 5 : 1 + last % 9);
            }
            due("of " + n + " actions, no more", () -> x.undo(), STATE);
        }

        under("when one more is remembered, the oldest one is forgotten");
        StepPaths x = after(14, i -> 1 + i % 9);
        for (int i = 0; i < 5; i++) {
            x.undo();
        }
        due("nine are left", () -> x.step(0, 3), 9);
        for (int i = 0; i < 5; i++) {
            x.exchange(0, 1);
        }
        x.setCost(0, 7);
        due("fourteen again", () -> x.undo(), 13);
        for (int left = 12; left >= 0; left--) {
            int want = left;
            due("then", () -> x.undo(), want);
        }
        due("the oldest is not the first", () -> x.step(0, 3), 1);
        due("no more", () -> x.undo(), STATE);
    }

    private static void lastCalls() {
        under("An object is used for at most 512 calls after it has been made");
        StepPaths x = text("K20a15");
        x.load();
        for (int call = 8; call <= 510; call++) {
            int cost = 1 + call % 9;
            due("call " + call, () -> x.setCost(0, cost), call == 8 ? 5 : 1 + (call - 1) % 9);
        }
        due("call 511", () -> x.undo(), 13);
        due("call 512", () -> x.step(0, 3), 1 + 509 % 9);
    }
}
