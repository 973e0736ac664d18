import java.util.function.LongSupplier;

// What the tests share: calls compared with the answers that are due, and graphs to ask about.
abstract class Check {
    static final long NONE = StepPaths.NONE;
    static final String INDEX = "throws.IndexOutOfBoundsException";
    static final String ARGUMENT = "throws.IllegalArgumentException";
    static final String STATE = "throws.IllegalStateException";

    private static String sentence = "";
    private static int checked = 0;
    private static int wrong = 0;

    /** Names the sentence of the document, or the promise, that the next calls belong to. */
    static void under(String words) {
        sentence = words;
    }

    static String answerOf(LongSupplier call) {
        try {
            return Long.toString(call.getAsLong());
        } catch (RuntimeException e) {
            return "throws." + e.getClass().getSimpleName();
        }
    }

    static void due(String what, String got, String want) {
        checked++;
        if (!got.equals(want)) {
            wrong++;
            System.out.println(sentence + ": " + what + " answered " + got + ", due is " + want);
        }
    }

    static void due(String what, LongSupplier call, String want) {
        due(what, answerOf(call), want);
    }

    static void due(String what, LongSupplier call, long want) {
        due(what, call, Long.toString(want));
    }

    static void end() {
        System.out.println(checked + " answers checked, " + wrong + " wrong");
        if (wrong != 0) {
            System.exit(1);
        }
    }

    static void write(StepPaths x, String text) {
        x.clearText();
        for (int i = 0; i < text.length(); i++) {
            x.append(text.charAt(i));
        }
    }

    static StepPaths text(String text) {
        StepPaths x = new StepPaths();
        write(x, text);
        return x;
    }

    /** An object with this graph and this pattern, an empty text, and one state that is remembered. */
    static StepPaths graph(String graph, String pattern) {
        StepPaths x = text(graph);
        x.load();
        write(x, pattern);
        x.take();
        x.clearText();
        return x;
    }

    /** Four people in a ring of steps of the kind 0, and a dear shortcut of the kind 1 from 0 to 2. */
    static StepPaths ring(String pattern) {
        return graph("K40a111a212a313a010b29", pattern);
    }

    /** Three people and all 24 steps that there can be between them: from 0, from 1, from 2. */
    static String fullGraph() {
        StringBuilder text = new StringBuilder("K3");
        for (int p = 0; p < 3; p++) {
            for (int q = 0; q < 3; q++) {
                for (int k = 0; p != q && k < 4; k++) {
                    text.append(p).append((char) ('a' + k)).append(q).append('1');
                }
            }
        }
        return text.toString();
    }

    /** Eight people and 24 steps of the cost 9: each person leads to the three behind it, kind by kind. */
    static String wideGraph() {
        StringBuilder text = new StringBuilder("K8");
        for (int s = 0; s < 24; s++) {
            int from = s % 8;
            int kind = s / 8;
            text.append(from).append((char) ('a' + kind)).append((from + 1 + kind) % 8).append('9');
        }
        return text.toString();
    }
}
