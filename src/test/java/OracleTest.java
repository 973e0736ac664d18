import java.util.ArrayList;
import java.util.List;
import java.util.Random;

// Random runs of calls, each answer compared with that of a slow model written straight from the document:
// it knows no positions of a pattern, but follows what "fits" is said to mean, part by part.
public final class OracleTest {
    private static final int RUNS = 400;
    private static final int CALLS = 250;
    private static int wrong = 0;
    private static int checked = 0;

    // ---- patterns as trees

    private static final class Node {
        final char type;   // a letter or '.', '&' for a branch, '|' for a pattern, '*', '+', '?'
        final List<Node> subs = new ArrayList<>();

        Node(char type) {
            this.type = type;
        }

        boolean fits(String row, int i, int j) {
            switch (type) {
                case '|':
                    for (Node sub : subs) {
                        if (sub.fits(row, i, j)) {
                            return true;
                        }
                    }
                    return false;
                case '&':
                    return partsFit(row, 0, i, j);
                case '?':
                    return i == j || subs.get(0).fits(row, i, j);
                case '*':
                    return i == j || repeated(row, i, j);
                case '+':
                    return subs.get(0).fits(row, i, j) || repeated(row, i, j);
                default:
                    return j == i + 1 && letterFits(row.charAt(i));
            }
        }

        boolean letterFits(char going) {
            return type == '.' ? going >= 'a' && going <= 'd' : going == type;
        }

        private boolean repeated(String row, int i, int j) {
            for (int k = i + 1; k <= j; k++) {
                if (subs.get(0).fits(row, i, k) && (k == j || repeated(row, k, j))) {
                    return true;
                }
            }
            return false;
        }

        private boolean partsFit(String row, int part, int i, int j) {
            if (part == subs.size()) {
                return i == j;
            }
            for (int k = i; k <= j; k++) {
                if (subs.get(part).fits(row, i, k) && partsFit(row, part + 1, k, j)) {
                    return true;
                }
            }
            return false;
        }

        /** Whether this stretch of the row begins some row that fits. */
        boolean begins(String row, int i, int j) {
            switch (type) {
                case '|':
                    for (Node sub : subs) {
                        if (sub.begins(row, i, j)) {
                            return true;
                        }
                    }
                    return false;
                case '&':
                    return partsBegin(row, 0, i, j);
                case '?':
                    return i == j || subs.get(0).begins(row, i, j);
                case '*':
                case '+':
                    for (int k = i; k <= j; k++) {
                        if ((k == i || repeated(row, i, k)) && subs.get(0).begins(row, k, j)) {
                            return true;
                        }
                    }
                    return false;
                default:
                    return i == j || fits(row, i, j);
            }
        }

        private boolean partsBegin(String row, int part, int i, int j) {
            if (part == subs.size()) {
                return i == j;
            }
            if (subs.get(part).begins(row, i, j)) {
                return true;
            }
            for (int k = i; k <= j; k++) {
                if (subs.get(part).fits(row, i, k) && partsBegin(row, part + 1, k, j)) {
                    return true;
                }
            }
            return false;
        }
    }

    private static final class NotAllowed extends RuntimeException {
        private static final long serialVersionUID = 1;
        final int position;

        NotAllowed(int position) {
            this.position = position;
        }
    }

    private static final class Parser {
        final String text;
        int at = 0;
        int letters = 0;

        Parser(String text) {
            this.text = text;
        }

        Node whole() {
            Node node = pattern(0);
            if (at < text.length()) {
                throw new NotAllowed(at);
            }
            return node;
        }

        private char peek() {
            if (at == 40 && text.length() > 40) {
                throw new NotAllowed(40);
            }
            return at < text.length() ? text.charAt(at) : 0;
        }

        private Node pattern(int open) {
            Node node = new Node('|');
            node.subs.add(branch(open));
            while (at < text.length() && peek() == '|') {
                at++;
                node.subs.add(branch(open));
            }
            return node;
        }

        private Node branch(int open) {
            Node node = new Node('&');
            while (at < text.length() && peek() != '|' && peek() != ')') {
                node.subs.add(ended(sign(open)));
            }
            return node;
        }

        private Node ended(Node sign) {
            if (at < text.length() && "*+?".indexOf(peek()) >= 0) {
                Node node = new Node(peek());
                node.subs.add(sign);
                at++;
                return node;
            }
            return sign;
        }

        private Node sign(int open) {
            char c = peek();
            if (c == '(') {
                if (open == 9) {
                    throw new NotAllowed(at);
                }
                at++;
                Node inner = pattern(open + 1);
                if (at == text.length()) {
                    throw new NotAllowed(at);
                }
                at++;
                return inner;
            }
            if ("abcdABCD.".indexOf(c) < 0 || letters == 20) {
                throw new NotAllowed(at);
            }
            letters++;
            at++;
            return new Node(c);
        }
    }

    // ---- people and steps

    private static final class Step {
        final int from;
        final int kind;
        final int to;
        final int cost;

        Step(int from, int kind, int to, int cost) {
            this.from = from;
            this.kind = kind;
            this.to = to;
            this.cost = cost;
        }
    }

    /** A path by its goings, each 10 * step + direction. */
    private static final class Way {
        final int cost;
        final int[] goings;

        Way(int cost, int[] goings) {
            this.cost = cost;
            this.goings = goings;
        }

        Way then(Way other) {
            int[] all = new int[goings.length + other.goings.length];
            System.arraycopy(goings, 0, all, 0, goings.length);
            System.arraycopy(other.goings, 0, all, goings.length, other.goings.length);
            return new Way(cost + other.cost, all);
        }

        boolean before(Way other) {
            if (cost != other.cost) {
                return cost < other.cost;
            }
            if (goings.length != other.goings.length) {
                return goings.length < other.goings.length;
            }
            for (int i = 0; i < goings.length; i++) {
                if (goings[i] != other.goings[i]) {
                    return goings[i] < other.goings[i];
                }
            }
            return false;
        }
    }

    private static final class Slow {
        int people = 0;
        List<Step> steps = new ArrayList<>();
        String pattern = "";
        Node tree = new Parser("").whole();

        Slow copy() {
            Slow other = new Slow();
            other.people = people;
            other.steps = new ArrayList<>(steps);
            other.pattern = pattern;
            other.tree = tree;
            return other;
        }

        void takeOver(Slow other) {
            people = other.people;
            steps = new ArrayList<>(other.steps);
            pattern = other.pattern;
            tree = other.tree;
        }

        int find(int p, int k, int q) {
            for (int s = 0; s < steps.size(); s++) {
                Step one = steps.get(s);
                if (one.from == p && one.kind == k && one.to == q) {
                    return s;
                }
            }
            return -9;
        }

        // The best ways between all pairs of people for a piece of the pattern: they can be put together,
        // as the order of ways with the same cost and length does not change by what goes before or behind.

        private Way[][] table() {
            return new Way[people][people];
        }

        private static void keep(Way[][] table, int u, int v, Way way) {
            if (way != null && (table[u][v] == null || way.before(table[u][v]))) {
                table[u][v] = way;
            }
        }

        private Way[][] empty() {
            Way[][] table = table();
            for (int p = 0; p < people; p++) {
                table[p][p] = new Way(0, new int[0]);
            }
            return table;
        }

        private Way[][] product(Way[][] a, Way[][] b) {
            Way[][] table = table();
            for (int u = 0; u < people; u++) {
                for (int w = 0; w < people; w++) {
                    for (int v = 0; v < people && a[u][w] != null; v++) {
                        if (b[w][v] != null) {
                            keep(table, u, v, a[u][w].then(b[w][v]));
                        }
                    }
                }
            }
            return table;
        }

        private Way[][] either(Way[][] a, Way[][] b) {
            Way[][] table = table();
            for (int u = 0; u < people; u++) {
                for (int v = 0; v < people; v++) {
                    keep(table, u, v, a[u][v]);
                    keep(table, u, v, b[u][v]);
                }
            }
            return table;
        }

        private Way[][] star(Way[][] a) {
            Way[][] table = empty();
            for (int i = 0; i <= people; i++) {
                table = either(empty(), product(table, a));
            }
            return table;
        }

        private Way[][] letter(Node node, int blocked) {
            Way[][] table = table();
            for (int s = 0; s < steps.size(); s++) {
                Step one = steps.get(s);
                if ((blocked >> s & 1) == 0 && node.letterFits((char) ('a' + one.kind))) {
                    keep(table, one.from, one.to, new Way(one.cost, new int[] {10 * s}));
                }
                if ((blocked >> s & 1) == 0 && node.letterFits((char) ('A' + one.kind))) {
                    keep(table, one.to, one.from, new Way(one.cost, new int[] {10 * s + 1}));
                }
            }
            return table;
        }

        Way[][] ways(Node node, int blocked) {
            Way[][] table;
            switch (node.type) {
                case '|':
                    table = table();
                    for (Node sub : node.subs) {
                        table = either(table, ways(sub, blocked));
                    }
                    return table;
                case '&':
                    table = empty();
                    for (Node sub : node.subs) {
                        table = product(table, ways(sub, blocked));
                    }
                    return table;
                case '?':
                    return either(empty(), ways(node.subs.get(0), blocked));
                case '*':
                    return star(ways(node.subs.get(0), blocked));
                case '+':
                    table = ways(node.subs.get(0), blocked);
                    return product(table, star(table));
                default:
                    return letter(node, blocked);
            }
        }

        Way best(int p, int q) {
            return ways(tree, 0)[p][q];
        }

        int pairs(int blocked) {
            int pairs = 0;
            for (Way[] row : ways(tree, blocked)) {
                for (Way way : row) {
                    pairs += way == null ? 0 : 1;
                }
            }
            return pairs;
        }

        int greatest(int blocked) {
            int greatest = -9;
            for (Way[] row : ways(tree, blocked)) {
                for (Way way : row) {
                    greatest = way == null ? greatest : Math.max(greatest, way.cost);
                }
            }
            return greatest;
        }

        int paths(int here, String row, int q, int n) {
            int count = here == q && tree.fits(row, 0, row.length()) ? 1 : 0;
            if (row.length() == n) {
                return count;
            }
            for (Step one : steps) {
                if (one.from == here) {
                    count += paths(one.to, row + (char) ('a' + one.kind), q, n);
                }
                if (one.to == here) {
                    count += paths(one.from, row + (char) ('A' + one.kind), q, n);
                }
            }
            return count;
        }

        int needed(int p, int q) {
            if (best(p, q) == null) {
                return 0;
            }
            int bits = 0;
            for (int s = 0; s < steps.size(); s++) {
                bits |= ways(tree, 1 << s)[p][q] == null ? 1 << s : 0;
            }
            return bits;
        }

        int bestNew(int p, int q) {
            int best = -9;
            int bestCost = Integer.MAX_VALUE;
            for (int number = 0; number < 800; number++) {
                int a = number / 100;
                int k = number / 10 % 10;
                int b = number % 10;
                if (a == b || k > 3 || a >= people || b >= people || find(a, k, b) != -9) {
                    continue;
                }
                Slow more = copy();
                more.steps.add(new Step(a, k, b, 1));
                Way way = more.best(p, q);
                if (way != null && way.cost < bestCost) {
                    best = number;
                    bestCost = way.cost;
                }
            }
            return best;
        }

        int follow(int p, int n, long row) {
            String digits = padded(row, 3 * n);
            StringBuilder letters = new StringBuilder();
            int here = p;
            for (int i = 0; i < n; i++) {
                int s = Integer.parseInt(digits.substring(3 * i, 3 * i + 2));
                char direction = digits.charAt(3 * i + 2);
                if (s >= steps.size() || direction > '1') {
                    return i + 1;
                }
                Step one = steps.get(s);
                if (here != (direction == '0' ? one.from : one.to)) {
                    return i + 1;
                }
                here = direction == '0' ? one.to : one.from;
                letters.append((char) ((direction == '0' ? 'a' : 'A') + one.kind));
                if (!tree.begins(letters.toString(), 0, i + 1)) {
                    return i + 1;
                }
            }
            return tree.fits(letters.toString(), 0, n) ? -9 : n + 1;
        }
    }

    private static String padded(long number, int digits) {
        StringBuilder text = new StringBuilder(Long.toString(number));
        while (text.length() < digits) {
            text.insert(0, '0');
        }
        return text.toString();
    }

    // ---- the whole object, slowly

    private static final class SlowObject {
        final StringBuilder text = new StringBuilder();
        final Slow state = new Slow();
        final List<Slow> remembered = new ArrayList<>();
        final Slow[] slots = new Slow[2];

        private void remember() {
            remembered.add(state.copy());
            if (remembered.size() > 14) {
                remembered.remove(0);
            }
        }

        private static void index(boolean fine) {
            if (!fine) {
                throw new IndexOutOfBoundsException();
            }
        }

        private static void argument(boolean fine) {
            if (!fine) {
                throw new IllegalArgumentException();
            }
        }

        private static void state(boolean fine) {
            if (!fine) {
                throw new IllegalStateException();
            }
        }

        private void people(int... numbers) {
            for (int p : numbers) {
                index(p >= 0 && p < state.people);
            }
        }

        private void steps(int s) {
            index(s >= 0 && s < state.steps.size());
        }

        private static boolean within(long low, long value, long high) {
            return low <= value && value <= high;
        }

        private Slow graph() {
            Slow graph = new Slow();
            String word = text.toString();
            for (int i = 0; i < word.length(); i++) {
                char c = word.charAt(i);
                boolean fine;
                if (i < 2) {
                    fine = i == 0 ? c == 'K' : c >= '1' && c <= '8';
                    graph.people = c - '0';
                } else if (graph.steps.size() == 24) {
                    fine = false;
                } else if ((i - 2) % 4 == 1) {
                    fine = within('a', c, 'd');
                } else if ((i - 2) % 4 == 3) {
                    fine = within('1', c, '9');
                    graph.steps.add(new Step(word.charAt(i - 3) - '0', word.charAt(i - 2) - 'a',
                            word.charAt(i - 1) - '0', c - '0'));
                } else {
                    fine = within('0', c, '0' + graph.people - 1);
                    if ((i - 2) % 4 == 2) {
                        fine &= c != word.charAt(i - 2);
                        fine &= graph.find(word.charAt(i - 2) - '0', word.charAt(i - 1) - 'a', c - '0') == -9;
                    }
                }
                if (!fine) {
                    throw new NotAllowed(i);
                }
            }
            if (word.length() < 2 || word.length() % 4 != 2) {
                throw new NotAllowed(word.length());
            }
            return graph;
        }

        int errorPosition(boolean pattern) {
            try {
                if (pattern) {
                    new Parser(text.toString()).whole();
                } else {
                    graph();
                }
                return -9;
            } catch (NotAllowed e) {
                return e.position;
            }
        }

        long answer(String name, long[] a) {
            int b = (int) a[0];
            int c = (int) a[1];
            int d = (int) a[2];
            Way way;
            switch (name) {
                case "append":
                    argument(within(0, b, 255));
                    state(text.length() < 110);
                    text.append((char) b);
                    return text.length();
                case "clearText":
                    int before = text.length();
                    text.setLength(0);
                    return before;
                case "errorPosition":
                    return errorPosition(b == 1);
                case "load":
                    state(errorPosition(false) == -9);
                    state.takeOver(graph());
                    remembered.clear();
                    slots[0] = null;
                    slots[1] = null;
                    return state.steps.size();
                case "about":
                    argument(within(0, b, 7));
                    int letters = 0;
                    for (char sign : state.pattern.toCharArray()) {
                        letters += "abcdABCD.".indexOf(sign) >= 0 ? 1 : 0;
                    }
                    int sum = 0;
                    for (Step one : state.steps) {
                        sum += one.cost;
                    }
                    int[] numbers = {state.people, state.steps.size(), state.pattern.length(), letters,
                        state.tree.fits("", 0, 0) ? 1 : 0, state.pairs(0), sum, state.greatest(0)};
                    return numbers[b];
                case "step":
                    steps(b);
                    argument(within(0, c, 3));
                    Step one = state.steps.get(b);
                    return new int[] {one.from, one.kind, one.to, one.cost}[c];
                case "person":
                    people(b);
                    argument(within(0, c, 3));
                    int number = 0;
                    for (Step each : state.steps) {
                        number += (c == 0 ? each.from : c == 1 ? each.to : -1) == b ? 1 : 0;
                    }
                    Way[][] ways = state.ways(state.tree, 0);
                    for (int p = 0; p < state.people && c > 1; p++) {
                        number |= (c == 2 ? ways[b][p] : ways[p][b]) != null ? 1 << p : 0;
                    }
                    return number;
                case "find":
                    people(b, d);
                    argument(b != d && within(0, c, 3));
                    return state.find(b, c, d);
                case "patternAt":
                    argument(b >= 0);
                    return b < state.pattern.length() ? state.pattern.charAt(b) : -9;
                case "save":
                    index(within(0, b, 1));
                    slots[b] = state.copy();
                    return state.steps.size();
                case "restore":
                    index(within(0, b, 1));
                    state(slots[b] != null);
                    state.takeOver(slots[b]);
                    remembered.clear();
                    return state.steps.size();
                case "undo":
                    state(!remembered.isEmpty());
                    state.takeOver(remembered.remove(remembered.size() - 1));
                    return remembered.size();
                case "cost":
                    people(b, c);
                    way = state.best(b, c);
                    return way == null ? -9 : way.cost;
                case "length":
                    people(b, c);
                    way = state.best(b, c);
                    return way == null ? -9 : way.goings.length;
                case "pathAt":
                    people(b, c);
                    argument(d >= 0);
                    way = state.best(b, c);
                    return way == null || d >= way.goings.length ? -9 : way.goings[d];
                case "paths":
                    people(b, c);
                    argument(within(0, d, 4));
                    return state.paths(b, "", c, d);
                case "needed":
                    people(b, c);
                    return state.needed(b, c);
                case "bestNew":
                    people(b, c);
                    return state.bestNew(b, c);
                case "follow":
                    people(b);
                    argument(within(1, c, 5));
                    argument(a[2] >= 0 && Long.toString(a[2]).length() <= 3 * c);
                    return state.follow(b, c, a[2]);
                case "runScript":
                    argument(within(1, b, 3));
                    argument(a[1] >= 0 && Long.toString(a[1]).length() <= 5 * b);
                    return runScript(b, a[1]);
                case "simulate":
                    argument(within(1, c, 20));
                    return simulate(a[0], c);
                default:
                    return action(name, a);
            }
        }

        private long action(String name, long[] a) {
            int b = (int) a[0];
            int c = (int) a[1];
            int d = (int) a[2];
            int e = (int) a[3];
            switch (name) {
                case "addPerson":
                    state(state.people < 8);
                    remember();
                    return state.people++;
                case "addStep":
                    people(b, d);
                    argument(b != d && within(0, c, 3) && within(1, e, 9));
                    state(state.find(b, c, d) == -9 && state.steps.size() < 24);
                    remember();
                    state.steps.add(new Step(b, c, d, e));
                    return state.steps.size() - 1;
                case "removeStep":
                    steps(b);
                    remember();
                    state.steps.remove(b);
                    return state.steps.size();
                case "setCost":
                    steps(b);
                    argument(within(1, c, 9));
                    remember();
                    Step costed = state.steps.get(b);
                    state.steps.set(b, new Step(costed.from, costed.kind, costed.to, c));
                    return costed.cost;
                case "turn":
                    steps(b);
                    Step turned = state.steps.get(b);
                    state(state.find(turned.to, turned.kind, turned.from) == -9);
                    remember();
                    state.steps.set(b, new Step(turned.to, turned.kind, turned.from, turned.cost));
                    return turned.to;
                case "exchange":
                    argument(within(0, b, 3) && within(0, c, 3));
                    remember();
                    int changed = 0;
                    for (int s = 0; s < state.steps.size(); s++) {
                        Step old = state.steps.get(s);
                        int kind = old.kind == b ? c : old.kind == c ? b : old.kind;
                        changed += kind == old.kind ? 0 : 1;
                        state.steps.set(s, new Step(old.from, kind, old.to, old.cost));
                    }
                    return changed;
                case "take":
                    state(errorPosition(true) == -9);
                    remember();
                    state.pattern = text.toString();
                    state.tree = new Parser(state.pattern).whole();
                    return answer("about", new long[] {3, 0, 0, 0});
                default:
                    throw new UnsupportedOperationException(name);
            }
        }

        private long runScript(int n, long script) {
            SlowObject copy = new SlowObject();
            copy.state.takeOver(state);
            String digits = padded(script, 5 * n);
            for (int i = 0; i < n; i++) {
                if (!copy.succeeds(digits.substring(5 * i, 5 * i + 5))) {
                    return i;
                }
            }
            return -9;
        }

        private boolean succeeds(String command) {
            int[] d = new int[6];
            for (int i = 1; i <= 5; i++) {
                d[i] = command.charAt(i - 1) - '0';
            }
            int ss = 10 * d[2] + d[3];
            try {
                switch (command.charAt(0)) {
                    case '1':
                        answer("addStep", new long[] {d[2], d[3], d[4], d[5]});
                        return true;
                    case '2':
                        argument(command.endsWith("00"));
                        answer("removeStep", new long[] {ss, 0, 0, 0});
                        return true;
                    case '3':
                        argument(d[4] == 0);
                        answer("setCost", new long[] {ss, d[5], 0, 0});
                        return true;
                    case '4':
                        argument(command.endsWith("00"));
                        answer("turn", new long[] {ss, 0, 0, 0});
                        return true;
                    case '5':
                        argument(command.endsWith("00"));
                        answer("exchange", new long[] {d[2], d[3], 0, 0});
                        return true;
                    case '6':
                        people(d[2], d[3]);
                        Way way = state.best(d[2], d[3]);
                        return way != null && way.cost <= 10 * d[4] + d[5];
                    case '7':
                        argument(d[4] == 0);
                        people(d[2], d[3]);
                        Way other = state.best(d[2], d[3]);
                        return other != null && other.goings.length <= d[5];
                    case '8':
                        argument(command.substring(2, 4).equals("00"));
                        return Long.bitCount(answer("person", new long[] {d[2], 2, 0, 0})) >= d[5];
                    case '9':
                        steps(ss);
                        people(d[4], d[5]);
                        return (state.needed(d[4], d[5]) >> ss & 1) == 1;
                    default:
                        return false;
                }
            } catch (IndexOutOfBoundsException | IllegalArgumentException | IllegalStateException e) {
                return false;
            }
        }

        private long simulate(long seed, int m) {
            long x = seed;
            long pairs = 0;
            long costs = 0;
            for (int day = 0; day < m; day++) {
                Slow today = state.copy();
                int blocked = 0;
                for (int s = 0; s < today.steps.size(); s++) {
                    x = x * 6364136223846793005L + 1442695040888963407L;
                    int r = (int) (x >>> 33);
                    Step old = today.steps.get(s);
                    today.steps.set(s, new Step(old.from, old.kind, old.to, 1 + r % 9));
                    blocked |= r / 16 % 8 == 0 ? 1 << s : 0;
                }
                pairs += today.pairs(blocked);
                costs += Math.max(0, today.greatest(blocked));
            }
            return 100000 * pairs + costs;
        }
    }

    // ---- the runs

    private static long answer(StepPaths x, String name, long[] a) {
        int b = (int) a[0];
        int c = (int) a[1];
        int d = (int) a[2];
        switch (name) {
            case "append": return x.append(b);
            case "clearText": return x.clearText();
            case "errorPosition": return x.errorPosition(b == 1);
            case "load": return x.load();
            case "about": return x.about(b);
            case "step": return x.step(b, c);
            case "person": return x.person(b, c);
            case "find": return x.find(b, c, d);
            case "patternAt": return x.patternAt(b);
            case "addPerson": return x.addPerson();
            case "addStep": return x.addStep(b, c, d, (int) a[3]);
            case "removeStep": return x.removeStep(b);
            case "setCost": return x.setCost(b, c);
            case "turn": return x.turn(b);
            case "exchange": return x.exchange(b, c);
            case "take": return x.take();
            case "undo": return x.undo();
            case "cost": return x.cost(b, c);
            case "length": return x.length(b, c);
            case "pathAt": return x.pathAt(b, c, d);
            case "paths": return x.paths(b, c, d);
            case "needed": return x.needed(b, c);
            case "bestNew": return x.bestNew(b, c);
            case "follow": return x.follow(b, c, a[2]);
            case "runScript": return x.runScript(b, a[1]);
            case "simulate": return x.simulate(a[0], c);
            case "save": return x.save(b);
            case "restore": return x.restore(b);
            default: throw new UnsupportedOperationException(name);
        }
    }

    private static final String[] NAMES = {"clearText", "errorPosition", "about", "about", "step", "person", "person",
        "find", "patternAt", "addPerson", "addStep", "addStep", "addStep", "addStep", "addStep", "addStep", "addStep",
        "removeStep", "setCost", "turn", "turn", "exchange", "undo", "cost", "cost", "length", "length",
        "pathAt", "pathAt", "pathAt", "paths", "paths", "needed", "needed", "bestNew", "follow", "follow", "follow",
        "runScript", "runScript", "runScript", "runScript", "simulate", "save", "restore"};

    private static boolean same(int run, StepPaths x, SlowObject y, String name, long... some) {
        long[] a = new long[4];
        System.arraycopy(some, 0, a, 0, some.length);
        String got;
        String want;
        try {
            want = Long.toString(y.answer(name, a));
        } catch (IndexOutOfBoundsException | IllegalArgumentException | IllegalStateException e) {
            want = "throws." + e.getClass().getSimpleName();
        }
        try {
            got = Long.toString(answer(x, name, a));
        } catch (RuntimeException e) {
            got = "throws." + e.getClass().getSimpleName();
        }
        checked++;
        if (!got.equals(want)) {
            wrong++;
            System.out.println("run " + run + ": " + name + java.util.Arrays.toString(a) + " answered " + got
                    + ", due is " + want + "; people " + y.state.people + ", steps " + y.state.steps.size()
                    + ", pattern " + y.state.pattern + ", text " + y.text);
        }
        return got.equals(want);
    }

    private static String somePattern(Random random, int depth, int kinds) {
        StringBuilder text = new StringBuilder();
        int branches = random.nextInt(3) == 0 ? 2 : 1;
        for (int i = 0; i < branches; i++) {
            text.append(i > 0 ? "|" : "");
            for (int parts = random.nextInt(4); parts > 0; parts--) {
                if (depth > 0 && random.nextInt(3) == 0) {
                    text.append('(').append(somePattern(random, depth - 1, kinds)).append(')');
                } else if (random.nextInt(6) == 0) {
                    text.append('.');
                } else {
                    text.append((char) ((random.nextInt(3) == 0 ? 'A' : 'a') + random.nextInt(kinds)));
                }
                text.append(new String[] {"", "", "*", "+", "?"}[random.nextInt(5)]);
            }
        }
        return text.toString();
    }

    private static String someGraph(Random random, int kinds) {
        int people = 1 + random.nextInt(8);
        StringBuilder text = new StringBuilder("K").append(people);
        boolean[] there = new boolean[1000];
        for (int i = random.nextInt(25); i > 0; i--) {
            int from = random.nextInt(people);
            int kind = random.nextInt(kinds);
            int to = random.nextInt(people);
            if (from != to && !there[100 * from + 10 * kind + to]) {
                there[100 * from + 10 * kind + to] = true;
                text.append(from).append((char) ('a' + kind)).append(to).append(1 + random.nextInt(random.nextBoolean() ? 9 : 2));
            }
        }
        return text.toString();
    }

    private static String spoilt(Random random, String text) {
        StringBuilder other = new StringBuilder(text);
        for (int i = random.nextInt(3); i >= 0; i--) {
            char c = "abcdABCD.()|*+?K0123456789e".charAt(random.nextInt(27));
            int at = random.nextInt(other.length() + 1);
            if (random.nextBoolean()) {
                other.insert(at, c);
            } else if (at < other.length() && random.nextBoolean()) {
                other.setCharAt(at, c);
            } else {
                other.setLength(at);
            }
        }
        return other.toString();
    }

    private static void write(int run, StepPaths x, SlowObject y, String text) {
        same(run, x, y, "clearText");
        for (int i = 0; i < text.length(); i++) {
            same(run, x, y, "append", text.charAt(i));
        }
    }

    private static void newText(int run, StepPaths x, SlowObject y, Random random, int kinds) {
        boolean graph = random.nextInt(5) == 0;
        String text = graph ? someGraph(random, kinds) : somePattern(random, 3, kinds);
        write(run, x, y, random.nextInt(4) == 0 ? spoilt(random, text) : text);
        same(run, x, y, "errorPosition", 0);
        same(run, x, y, "errorPosition", 1);
        if (graph) {
            same(run, x, y, "load");
        }
        same(run, x, y, "take");
    }

    private static int near(Random random, int count) {
        return random.nextInt(15) == 0 ? new int[] {-1, count, Integer.MAX_VALUE, Integer.MIN_VALUE}[random.nextInt(4)]
                : random.nextInt(Math.max(1, count));
    }

    /** A row of goings that is mostly a path, and sometimes none. */
    private static long someRow(Random random, Slow state, int start, int n) {
        long row = 0;
        int here = start;
        for (int i = 0; i < n; i++) {
            int s = random.nextInt(Math.max(1, state.steps.size() + (random.nextInt(10) == 0 ? 3 : 0)));
            int direction = random.nextInt(20) == 0 ? random.nextInt(10) : random.nextInt(2);
            for (int tries = 0; tries < 40 && random.nextInt(60) != 0; tries++) {
                if (s < state.steps.size()) {
                    Step one = state.steps.get(s);
                    if (here == (direction == 0 ? one.from : one.to)) {
                        break;
                    }
                }
                s = random.nextInt(Math.max(1, state.steps.size()));
                direction = random.nextInt(2);
            }
            if (s < state.steps.size()) {
                here = direction == 0 ? state.steps.get(s).to : state.steps.get(s).from;
            }
            row = 1000 * row + 10 * s + direction;
        }
        return row;
    }

    private static long someScript(Random random, Slow state, int n) {
        long script = 0;
        for (int i = 0; i < n; i++) {
            int p = random.nextInt(Math.max(1, state.people));
            int q = random.nextInt(Math.max(1, state.people));
            int s = random.nextInt(Math.max(1, state.steps.size()));
            int k = random.nextInt(4);
            int command = random.nextInt(10);
            int[] groups = {0, 1000 * p + 100 * k + 10 * q + 1 + random.nextInt(9), 100 * s, 100 * s + random.nextInt(10),
                100 * s, 1000 * k + 100 * random.nextInt(4), 1000 * p + 100 * q + random.nextInt(30),
                1000 * p + 100 * q + random.nextInt(8), 1000 * p + random.nextInt(8), 100 * s + 10 * p + q};
            int group = random.nextInt(12) == 0 ? random.nextInt(10000) : groups[command];
            script = 100000 * script + 10000 * command + group;
        }
        return script;
    }

    private static void call(int run, StepPaths x, SlowObject y, Random random) {
        String name = NAMES[random.nextInt(NAMES.length)];
        int people = y.state.people;
        int steps = y.state.steps.size();
        int p = near(random, people);
        int q = near(random, people);
        int n = random.nextInt(6);
        switch (name) {
            case "errorPosition":
                same(run, x, y, name, random.nextInt(2));
                break;
            case "about":
                same(run, x, y, name, near(random, 8));
                break;
            case "step":
                same(run, x, y, name, near(random, steps), near(random, 4));
                break;
            case "person":
                same(run, x, y, name, p, near(random, 4));
                break;
            case "find":
            case "addStep":
                same(run, x, y, name, p, near(random, 4), q, random.nextInt(20) == 0 ? near(random, 11) : 1 + random.nextInt(9));
                break;
            case "patternAt":
                same(run, x, y, name, near(random, 12));
                break;
            case "setCost":
                same(run, x, y, name, near(random, steps), near(random, 11));
                break;
            case "removeStep":
            case "turn":
                same(run, x, y, name, near(random, steps));
                break;
            case "exchange":
                same(run, x, y, name, near(random, 4), near(random, 4));
                break;
            case "pathAt":
                same(run, x, y, name, p, q, random.nextInt(15) == 0 ? near(random, 100) : random.nextInt(4));
                break;
            case "paths":
                int most = steps > 14 ? 3 : 5;
                same(run, x, y, name, p, q, random.nextInt(15) == 0 ? near(random, most) : random.nextInt(most));
                break;
            case "follow":
                long row = random.nextInt(15) == 0 ? random.nextLong() : someRow(random, y.state, p, n);
                same(run, x, y, name, p, n, row);
                break;
            case "runScript":
                int commands = random.nextInt(15) == 0 ? random.nextInt(6) - 1 : 1 + random.nextInt(3);
                long script = someScript(random, y.state, Math.max(1, Math.min(3, commands)));
                same(run, x, y, name, commands, random.nextInt(30) == 0 ? random.nextLong() : script);
                break;
            case "simulate":
                same(run, x, y, name, random.nextLong(), random.nextInt(15) == 0 ? near(random, 21) : 1 + random.nextInt(3));
                break;
            case "save":
            case "restore":
                same(run, x, y, name, random.nextInt(10) == 0 ? near(random, 2) : random.nextInt(2));
                break;
            default:
                same(run, x, y, name, p, q);
        }
    }

    public static void main(String[] args) {
        for (int run = 1; run <= RUNS && wrong == 0; run++) {
            Random random = new Random(run);
            StepPaths x = new StepPaths();
            SlowObject y = new SlowObject();
            int kinds = 1 + random.nextInt(4);
            if (random.nextInt(4) != 0) {
                write(run, x, y, someGraph(random, kinds));
                same(run, x, y, "load");
            }
            for (int i = 0; i < CALLS && wrong == 0; i++) {
                if (i % 40 == 0) {
                    newText(run, x, y, random, kinds);
                }
                call(run, x, y, random);
            }
        }
        System.out.println(checked + " answers compared, " + wrong + " wrong");
        if (wrong != 0) {
            System.exit(1);
        }
    }
}
