/**
 * Who knows whom: people, steps of four kinds between them, and the paths whose kinds fit a pattern.
 *
 * <p>Everything that a call needs is made in the constructor and used again, as all calls of a run
 * share one room; only take() makes something new, the pattern that it has read.
 */
public final class StepPaths {
    public static final int NONE = -9;

    private static final int MAX_PEOPLE = 8;
    private static final int MAX_STEPS = 24;
    private static final int KINDS = 4;
    private static final int MAX_COST = 9;
    private static final int MAX_TEXT = 110;
    private static final int MAX_PATTERN = 40;
    private static final int MAX_LETTERS = 20;
    private static final int MAX_OPEN = 9;
    private static final int MAX_REMEMBERED = 14;
    private static final int SLOTS = 2;
    private static final int MAX_COUNTED = 4;
    private static final int MAX_FOLLOWED = 5;
    private static final int MAX_COMMANDS = 3;
    private static final int MAX_DAYS = 20;

    // Position 0 of a pattern is its beginning, the others are its letters from left to right.
    private static final int POSITIONS = MAX_LETTERS + 1;
    private static final int BEGINNING = 1;

    // No cheapest path is twice at one person in one position, so each best cost is below this.
    private static final int COST_BOUND = MAX_PEOPLE * POSITIONS * MAX_COST;

    private static final int FINE = 0;
    private static final int NO_SUCH = 1;
    private static final int OUT_OF_RANGE = 2;
    private static final int NOT_NOW = 3;

    private final Text text;
    private final Pattern emptyPattern;
    private final PatternReader reader;
    private final State state;
    // For what is tried and not kept: graphs being read, scripts, simulated days, new steps.
    private final State draft;
    private final History history;
    private final State[] slots;
    private final boolean[] filled;
    private final Search search;
    private final Search trial;
    private final BestPath bestPath;

    public StepPaths() {
        text = new Text();
        emptyPattern = new Pattern();
        reader = new PatternReader();
        state = new State(emptyPattern);
        draft = new State(emptyPattern);
        history = new History(emptyPattern);
        slots = new State[SLOTS];
        for (int i = 0; i < SLOTS; i++) {
            slots[i] = new State(emptyPattern);
        }
        filled = new boolean[SLOTS];
        search = new Search();
        trial = new Search();
        bestPath = new BestPath();
    }

    // ---- text

    public int append(int c) throws IllegalArgumentException, IllegalStateException {
        require(c >= 0 && c <= 255, OUT_OF_RANGE);
        require(text.size < MAX_TEXT, NOT_NOW);
        text.characters[text.size] = (char) c;
        text.size++;
        return text.size;
    }

    public int clearText() {
        int before = text.size;
        text.size = 0;
        return before;
    }

    public int errorPosition(boolean pattern) {
        return pattern ? text.patternError() : text.readGraph(draft, emptyPattern);
    }

    public int load() throws IllegalStateException {
        require(text.readGraph(draft, emptyPattern) == NONE, NOT_NOW);
        state.copyFrom(draft);
        history.forgetAll();
        for (int i = 0; i < SLOTS; i++) {
            filled[i] = false;
        }
        return state.steps;
    }

    // ---- what there is

    public int about(int what) throws IllegalArgumentException {
        require(what >= 0 && what <= 7, OUT_OF_RANGE);
        switch (what) {
            case 0:
                return state.people;
            case 1:
                return state.steps;
            case 2:
                return state.pattern.size;
            case 3:
                return state.pattern.letters;
            case 4:
                return state.pattern.accepts(BEGINNING) ? 1 : 0;
            case 5:
                search.survey(state, 0);
                return search.pairs;
            case 6:
                return state.costSum();
            default:
                search.survey(state, 0);
                return search.greatest;
        }
    }

    public int step(int s, int what) throws IndexOutOfBoundsException, IllegalArgumentException {
        require(state.hasStep(s), NO_SUCH);
        require(what >= 0 && what <= 3, OUT_OF_RANGE);
        switch (what) {
            case 0:
                return state.from[s];
            case 1:
                return state.kind[s];
            case 2:
                return state.to[s];
            default:
                return state.cost[s];
        }
    }

    public int person(int p, int what) throws IndexOutOfBoundsException, IllegalArgumentException {
        require(state.hasPerson(p), NO_SUCH);
        require(what >= 0 && what <= 3, OUT_OF_RANGE);
        switch (what) {
            case 0:
                return state.countOf(state.from, p);
            case 1:
                return state.countOf(state.to, p);
            case 2:
                return search.peopleFrom(state, p);
            default:
                return search.peopleTo(state, p);
        }
    }

    public int find(int p, int k, int q) throws IndexOutOfBoundsException, IllegalArgumentException {
        require(state.hasPeople(p, q), NO_SUCH);
        require(p != q && isKind(k), OUT_OF_RANGE);
        return state.indexOf(p, k, q);
    }

    public int patternAt(int i) throws IllegalArgumentException {
        require(i >= 0, OUT_OF_RANGE);
        return i < state.pattern.size ? state.pattern.characters[i] : NONE;
    }

    // ---- actions

    public int addPerson() throws IllegalStateException {
        require(state.people < MAX_PEOPLE, NOT_NOW);
        history.remember(state);
        state.people++;
        return state.people - 1;
    }

    public int addStep(int p, int k, int q, int cost)
            throws IndexOutOfBoundsException, IllegalArgumentException, IllegalStateException {
        refuse(state.faultOfAdding(p, k, q, cost));
        history.remember(state);
        return state.put(p, k, q, cost);
    }

    public int removeStep(int s) throws IndexOutOfBoundsException {
        require(state.hasStep(s), NO_SUCH);
        history.remember(state);
        state.drop(s);
        return state.steps;
    }

    public int setCost(int s, int cost) throws IndexOutOfBoundsException, IllegalArgumentException {
        refuse(state.faultOfCosting(s, cost));
        history.remember(state);
        int before = state.cost[s];
        state.cost[s] = cost;
        return before;
    }

    public int turn(int s) throws IndexOutOfBoundsException, IllegalStateException {
        refuse(state.faultOfReversing(s));
        history.remember(state);
        state.reverse(s);
        return state.from[s];
    }

    public int exchange(int k, int l) throws IllegalArgumentException {
        require(isKind(k) && isKind(l), OUT_OF_RANGE);
        history.remember(state);
        return state.swapKinds(k, l);
    }

    public int take() throws IllegalStateException {
        require(text.patternError() == NONE, NOT_NOW);
        history.remember(state);
        state.pattern = reader.read(text);
        return state.pattern.letters;
    }

    public int undo() throws IllegalStateException {
        require(history.count > 0, NOT_NOW);
        history.bringBack(state);
        return history.count;
    }

    // ---- paths

    public int cost(int p, int q) throws IndexOutOfBoundsException {
        require(state.hasPeople(p, q), NO_SUCH);
        return search.between(state, p, q, 0, COST_BOUND);
    }

    public int length(int p, int q) throws IndexOutOfBoundsException {
        require(state.hasPeople(p, q), NO_SUCH);
        bestPath.aimAt(state, q);
        return bestPath.goingsFrom(p);
    }

    public int pathAt(int p, int q, int i) throws IndexOutOfBoundsException, IllegalArgumentException {
        require(state.hasPeople(p, q), NO_SUCH);
        require(i >= 0, OUT_OF_RANGE);
        bestPath.aimAt(state, q);
        return bestPath.goingAt(state, p, i);
    }

    public int paths(int p, int q, int n) throws IndexOutOfBoundsException, IllegalArgumentException {
        require(state.hasPeople(p, q), NO_SUCH);
        require(n >= 0 && n <= MAX_COUNTED, OUT_OF_RANGE);
        return countFitting(state, p, BEGINNING, q, n);
    }

    public int needed(int p, int q) throws IndexOutOfBoundsException {
        require(state.hasPeople(p, q), NO_SUCH);
        if (!search.finds(state, p, q, 0)) {
            return 0;
        }
        int steps = 0;
        for (int s = 0; s < state.steps; s++) {
            steps |= search.finds(state, p, q, 1 << s) ? 0 : 1 << s;
        }
        return steps;
    }

    public int bestNew(int p, int q) throws IndexOutOfBoundsException {
        require(state.hasPeople(p, q), NO_SUCH);
        search.fromPerson(state, p, 0);
        draft.copyFrom(state);
        int best = NONE;
        int bestCost = COST_BOUND;
        for (int step = 0; step < 100 * state.people; step++) {
            if (isNew(step)) {
                int cost = costWith(step, p, q, bestCost);
                if (cost != NONE && cost < bestCost) {
                    best = step;
                    bestCost = cost;
                }
            }
        }
        return best;
    }

    public int follow(int p, int n, long row) throws IndexOutOfBoundsException, IllegalArgumentException {
        require(state.hasPerson(p), NO_SUCH);
        require(n >= 1 && n <= MAX_FOLLOWED, OUT_OF_RANGE);
        require(row >= 0 && without(row, 3 * n) == 0, OUT_OF_RANGE);
        int here = p;
        int positions = BEGINNING;
        for (int i = 1; i <= n; i++) {
            int going = (int) (without(row, 3 * (n - i)) % 1000);
            int s = going / 10;
            int direction = going % 10;
            if (!state.hasStep(s) || direction > 1 || state.beginOf(s, direction) != here) {
                return i;
            }
            positions = state.enter(state.pattern.following(positions), s, direction);
            if (positions == 0) {
                return i;
            }
            here = state.endOf(s, direction);
        }
        return state.pattern.accepts(positions) ? NONE : n + 1;
    }

    // ---- scripts, simulations

    public int runScript(int n, long script) throws IllegalArgumentException {
        require(n >= 1 && n <= MAX_COMMANDS, OUT_OF_RANGE);
        require(script >= 0 && without(script, 5 * n) == 0, OUT_OF_RANGE);
        draft.copyFrom(state);
        for (int i = 0; i < n; i++) {
            if (!succeeds((int) (without(script, 5 * (n - 1 - i)) % 100000))) {
                return i;
            }
        }
        return NONE;
    }

    public int simulate(long seed, int m) throws IllegalArgumentException {
        require(m >= 1 && m <= MAX_DAYS, OUT_OF_RANGE);
        draft.copyFrom(state);
        long x = seed;
        int pairs = 0;
        int costs = 0;
        for (int day = 0; day < m; day++) {
            int blocked = 0;
            for (int s = 0; s < draft.steps; s++) {
                x = x * 6364136223846793005L + 1442695040888963407L;
                int r = (int) (x >>> 33);
                draft.cost[s] = 1 + r % 9;
                if (r / 16 % 8 == 0) {
                    blocked |= 1 << s;
                }
            }
            search.survey(draft, blocked);
            pairs += search.pairs;
            costs += search.greatest == NONE ? 0 : search.greatest;
        }
        return 100000 * pairs + costs;
    }

    // ---- save slots

    public int save(int slot) throws IndexOutOfBoundsException {
        require(isSlot(slot), NO_SUCH);
        slots[slot].copyFrom(state);
        filled[slot] = true;
        return state.steps;
    }

    public int restore(int slot) throws IndexOutOfBoundsException, IllegalStateException {
        require(isSlot(slot), NO_SUCH);
        require(filled[slot], NOT_NOW);
        state.copyFrom(slots[slot]);
        history.forgetAll();
        return state.steps;
    }

    // ---- what the methods above share

    private static void require(boolean right, int fault) {
        refuse(right ? FINE : fault);
    }

    private static void refuse(int fault) {
        if (fault == NO_SUCH) {
            throw new IndexOutOfBoundsException("there is no such person, step or save slot");
        }
        if (fault == OUT_OF_RANGE) {
            throw new IllegalArgumentException("an argument is out of its range");
        }
        if (fault == NOT_NOW) {
            throw new IllegalStateException("the state or the text does not allow this");
        }
    }

    private static boolean isKind(int k) {
        return k >= 0 && k < KINDS;
    }

    private static boolean isCost(int c) {
        return c >= 1 && c <= MAX_COST;
    }

    private static boolean isSlot(int slot) {
        return slot >= 0 && slot < SLOTS;
    }

    /** What is left of a number without so many of its lowest digits. */
    private static long without(long number, int lowest) {
        long rest = number;
        for (int i = 0; i < lowest; i++) {
            rest /= 10;
        }
        return rest;
    }

    /**
     * How many rows of at most so many goings lead on from a person at some positions to q. Each row
     * is counted once, as all positions that it can be at are followed together.
     */
    private static int countFitting(State graph, int here, int positions, int q, int goings) {
        int count = here == q && graph.pattern.accepts(positions) ? 1 : 0;
        if (goings <= 0) {
            return count;
        }
        int next = graph.pattern.following(positions);
        for (int s = 0; s < graph.steps; s++) {
            for (int direction = 0; direction < 2; direction++) {
                int entered = graph.beginOf(s, direction) == here ? graph.enter(next, s, direction) : 0;
                if (entered != 0) {
                    count += countFitting(graph, graph.endOf(s, direction), entered, q, goings - 1);
                }
            }
        }
        return count;
    }

    /** Whether the state could have this step, written as bestNew answers it, and has it not. */
    private boolean isNew(int step) {
        int a = step / 100;
        int k = step / 10 % 10;
        int b = step % 10;
        return state.hasPeople(a, b) && a != b && isKind(k) && state.indexOf(a, k, b) == NONE;
    }

    /**
     * The cost of the best path with one more step; NONE also if it is not below the limit. The draft
     * holds the state, and search what can be reached in it.
     */
    private int costWith(int step, int p, int q, int limit) {
        int a = step / 100;
        int k = step / 10 % 10;
        int b = step % 10;
        // A step that no path can come to use changes nothing, and most of them are such.
        if (!search.couldGo(state, a, k) && !search.couldGo(state, b, KINDS + k)) {
            return search.costs[q];
        }
        draft.steps = state.steps;
        draft.put(a, k, b, 1);
        return trial.between(draft, p, q, 0, limit);
    }

    /** Commands see and change the draft alone, so that the state stays as it is. */
    private boolean succeeds(int command) {
        int d2 = command / 1000 % 10;
        int d3 = command / 100 % 10;
        int d4 = command / 10 % 10;
        int d5 = command % 10;
        int s = 10 * d2 + d3;
        switch (command / 10000) {
            case 1:
                return adds(d2, d3, d4, d5);
            case 2:
                return d4 == 0 && d5 == 0 && removes(s);
            case 3:
                return d4 == 0 && setsCost(s, d5);
            case 4:
                return d4 == 0 && d5 == 0 && turns(s);
            case 5:
                return d4 == 0 && d5 == 0 && exchanges(d2, d3);
            case 6:
                return costsAtMost(d2, d3, 10 * d4 + d5);
            case 7:
                return d4 == 0 && goesAtMost(d2, d3, d5);
            case 8:
                return d3 == 0 && d4 == 0 && reachesAtLeast(d2, d5);
            case 9:
                return needsStep(s, d4, d5);
            default:
                return false;
        }
    }

    private boolean adds(int p, int k, int q, int cost) {
        if (draft.faultOfAdding(p, k, q, cost) != FINE) {
            return false;
        }
        draft.put(p, k, q, cost);
        return true;
    }

    private boolean removes(int s) {
        if (!draft.hasStep(s)) {
            return false;
        }
        draft.drop(s);
        return true;
    }

    private boolean setsCost(int s, int cost) {
        if (draft.faultOfCosting(s, cost) != FINE) {
            return false;
        }
        draft.cost[s] = cost;
        return true;
    }

    private boolean turns(int s) {
        if (draft.faultOfReversing(s) != FINE) {
            return false;
        }
        draft.reverse(s);
        return true;
    }

    private boolean exchanges(int k, int l) {
        if (!isKind(k) || !isKind(l)) {
            return false;
        }
        draft.swapKinds(k, l);
        return true;
    }

    private boolean costsAtMost(int p, int q, int most) {
        return draft.hasPeople(p, q) && search.between(draft, p, q, 0, most + 1) != NONE;
    }

    private boolean goesAtMost(int p, int q, int most) {
        if (!draft.hasPeople(p, q)) {
            return false;
        }
        bestPath.aimAt(draft, q);
        int goings = bestPath.goingsFrom(p);
        return goings != NONE && goings <= most;
    }

    private boolean reachesAtLeast(int p, int least) {
        return draft.hasPerson(p) && Integer.bitCount(search.peopleFrom(draft, p)) >= least;
    }

    private boolean needsStep(int s, int p, int q) {
        return draft.hasStep(s) && draft.hasPeople(p, q)
                && search.finds(draft, p, q, 0) && !search.finds(draft, p, q, 1 << s);
    }

    /** The text buffer, and what the rules for patterns and graphs say of it. */
    private static final class Text {
        final char[] characters = new char[MAX_TEXT];
        int size;

        int patternError() {
            int letters = 0;
            int open = 0;
            boolean behindSign = false;
            for (int i = 0; i < size; i++) {
                char c = characters[i];
                boolean letter = Pattern.isLetter(c);
                boolean allowed = letter && letters < MAX_LETTERS
                        || c == '(' && open < MAX_OPEN
                        || c == ')' && open > 0
                        || c == '|'
                        || Pattern.isEnding(c) && behindSign;
                if (!allowed || i >= MAX_PATTERN) {
                    return i;
                }
                letters += letter ? 1 : 0;
                open += c == '(' ? 1 : 0;
                open -= c == ')' ? 1 : 0;
                behindSign = letter || c == ')';
            }
            return open > 0 ? size : NONE;
        }

        /** Reads a graph, with the empty pattern; answers the error position, NONE if it is read whole. */
        int readGraph(State graph, Pattern emptyPattern) {
            graph.clear(emptyPattern);
            for (int i = 0; i < size; i++) {
                if (!readCharacter(graph, i)) {
                    return i;
                }
            }
            return size < 2 || (size - 2) % 4 != 0 ? size : NONE;
        }

        private boolean readCharacter(State graph, int i) {
            char c = characters[i];
            if (i == 0) {
                return c == 'K';
            }
            if (i == 1) {
                graph.people = c - '0';
                return c >= '1' && c <= '0' + MAX_PEOPLE;
            }
            int s = graph.steps;
            if (s >= MAX_STEPS) {
                return false;
            }
            switch ((i - 2) % 4) {
                case 0:
                    graph.from[s] = c - '0';
                    return graph.hasPerson(c - '0');
                case 1:
                    graph.kind[s] = c - 'a';
                    return isKind(c - 'a');
                case 2:
                    graph.to[s] = c - '0';
                    return graph.hasPerson(c - '0') && c - '0' != graph.from[s]
                            && graph.indexOf(graph.from[s], graph.kind[s], c - '0') == NONE;
                default:
                    graph.cost[s] = c - '0';
                    graph.steps++;
                    return isCost(c - '0');
            }
        }
    }

    /**
     * A pattern, held as which of its positions can come after which. Sets of positions are bits of
     * an int; a row of goings can be at several positions, as a pattern may fit it in several ways.
     */
    private static final class Pattern {
        final char[] characters = new char[MAX_PATTERN];
        int size;
        int letters;
        final int[] after = new int[POSITIONS];
        final int[] before = new int[POSITIONS];
        // By kind forwards, then by kind backwards: the positions whose letter is such a going.
        final int[] enteredBy = new int[2 * KINDS];
        // The empty pattern accepts the empty row; the reader tells it anew for each other one.
        int accepting = BEGINNING;

        static boolean isLetter(char c) {
            return c >= 'a' && c <= 'd' || c >= 'A' && c <= 'D' || c == '.';
        }

        static boolean isEnding(char c) {
            return c == '*' || c == '+' || c == '?';
        }

        boolean accepts(int positions) {
            return (positions & accepting) != 0;
        }

        int following(int positions) {
            int next = 0;
            for (int i = 0; i < POSITIONS && positions >> i != 0; i++) {
                if ((positions >> i & 1) != 0) {
                    next |= after[i];
                }
            }
            return next;
        }

        void allow(int lasts, int firsts) {
            for (int i = 0; i < POSITIONS; i++) {
                if ((lasts >> i & 1) != 0) {
                    after[i] |= firsts;
                }
                if ((firsts >> i & 1) != 0) {
                    before[i] |= lasts;
                }
            }
        }

        /** Makes a position of the next letter and returns its bit. */
        int place(char c) {
            letters++;
            int bit = 1 << letters;
            for (int k = 0; k < KINDS; k++) {
                if (c == '.' || c == 'a' + k) {
                    enteredBy[k] |= bit;
                }
                if (c == 'A' + k) {
                    enteredBy[KINDS + k] |= bit;
                }
            }
            return bit;
        }
    }

    /** Where a piece of a pattern can begin and end, and whether the empty row fits it. */
    private static final class Piece {
        int firsts;
        int lasts;
        boolean empty;

        void become(int newFirsts, int newLasts, boolean newEmpty) {
            firsts = newFirsts;
            lasts = newLasts;
            empty = newEmpty;
        }

        void orElse(Piece other) {
            become(firsts | other.firsts, lasts | other.lasts, empty || other.empty);
        }
    }

    /** Makes patterns of texts that are patterns; has a place for each parenthesis that can be open. */
    private static final class PatternReader {
        private final Piece[] ended = new Piece[MAX_OPEN + 1];
        private final Piece[] branches = new Piece[MAX_OPEN + 1];
        private final Piece part = new Piece();
        private Pattern pattern = new Pattern();
        private int open;

        PatternReader() {
            for (int i = 0; i <= MAX_OPEN; i++) {
                ended[i] = new Piece();
                branches[i] = new Piece();
            }
        }

        Pattern read(Text text) {
            pattern = new Pattern();
            open = 0;
            begin();
            for (int i = 0; i < text.size && i < MAX_PATTERN; i++) {
                pattern.characters[i] = text.characters[i];
                pattern.size++;
                readSign(text.characters[i], i + 1 < text.size ? text.characters[i + 1] : '|');
            }
            Piece whole = closed();
            pattern.allow(BEGINNING, whole.firsts);
            pattern.accepting = whole.lasts | (whole.empty ? BEGINNING : 0);
            return pattern;
        }

        private void readSign(char c, char next) {
            if (Pattern.isLetter(c) && pattern.letters < MAX_LETTERS) {
                int bit = pattern.place(c);
                part.become(bit, bit, false);
                addPart(next);
            } else if (c == '(' && open < MAX_OPEN) {
                open++;
                begin();
            } else if (c == ')' && open > 0) {
                Piece inner = closed();
                part.become(inner.firsts, inner.lasts, inner.empty);
                open--;
                addPart(next);
            } else if (c == '|') {
                ended[open].orElse(branches[open]);
                branches[open].become(0, 0, true);
            }
        }

        private void begin() {
            ended[open].become(0, 0, false);
            branches[open].become(0, 0, true);
        }

        private Piece closed() {
            ended[open].orElse(branches[open]);
            return ended[open];
        }

        /** Adds the part to the branch; what comes next is looked at, as it may be the part's ending. */
        private void addPart(char next) {
            if (next == '*' || next == '+') {
                pattern.allow(part.lasts, part.firsts);
            }
            boolean empty = part.empty || next == '*' || next == '?';
            Piece branch = branches[open];
            pattern.allow(branch.lasts, part.firsts);
            branch.become(branch.firsts | (branch.empty ? part.firsts : 0),
                    part.lasts | (empty ? branch.lasts : 0), branch.empty && empty);
        }
    }

    /** The people, the steps and the pattern: all that actions change. */
    private static final class State {
        int people;
        int steps;
        // One place more than there may be steps, for a step that is only tried.
        final int[] from = new int[MAX_STEPS + 1];
        final int[] kind = new int[MAX_STEPS + 1];
        final int[] to = new int[MAX_STEPS + 1];
        final int[] cost = new int[MAX_STEPS + 1];
        // Patterns do not change once they are read, so states can share them.
        Pattern pattern;

        State(Pattern first) {
            pattern = first;
        }

        void clear(Pattern empty) {
            people = 0;
            steps = 0;
            pattern = empty;
        }

        void copyFrom(State other) {
            people = other.people;
            steps = other.steps;
            for (int s = 0; s < steps; s++) {
                from[s] = other.from[s];
                kind[s] = other.kind[s];
                to[s] = other.to[s];
                cost[s] = other.cost[s];
            }
            pattern = other.pattern;
        }

        boolean hasPerson(int p) {
            return p >= 0 && p < people;
        }

        boolean hasPeople(int p, int q) {
            return hasPerson(p) && hasPerson(q);
        }

        boolean hasStep(int s) {
            return s >= 0 && s < steps;
        }

        int faultOfAdding(int p, int k, int q, int c) {
            if (!hasPeople(p, q)) {
                return NO_SUCH;
            }
            if (p == q || !isKind(k) || !isCost(c)) {
                return OUT_OF_RANGE;
            }
            return indexOf(p, k, q) != NONE || steps >= MAX_STEPS ? NOT_NOW : FINE;
        }

        int faultOfCosting(int s, int c) {
            if (!hasStep(s)) {
                return NO_SUCH;
            }
            return isCost(c) ? FINE : OUT_OF_RANGE;
        }

        int faultOfReversing(int s) {
            if (!hasStep(s)) {
                return NO_SUCH;
            }
            return indexOf(to[s], kind[s], from[s]) == NONE ? FINE : NOT_NOW;
        }

        int indexOf(int p, int k, int q) {
            for (int s = 0; s < steps; s++) {
                if (from[s] == p && kind[s] == k && to[s] == q) {
                    return s;
                }
            }
            return NONE;
        }

        int countOf(int[] ends, int p) {
            int count = 0;
            for (int s = 0; s < steps; s++) {
                if (ends[s] == p) {
                    count++;
                }
            }
            return count;
        }

        int costSum() {
            int sum = 0;
            for (int s = 0; s < steps; s++) {
                sum += cost[s];
            }
            return sum;
        }

        int put(int p, int k, int q, int c) {
            if (steps > MAX_STEPS) {
                return NONE;
            }
            from[steps] = p;
            kind[steps] = k;
            to[steps] = q;
            cost[steps] = c;
            steps++;
            return steps - 1;
        }

        void drop(int s) {
            for (int t = s + 1; t < steps; t++) {
                from[t - 1] = from[t];
                kind[t - 1] = kind[t];
                to[t - 1] = to[t];
                cost[t - 1] = cost[t];
            }
            steps--;
        }

        void reverse(int s) {
            int start = from[s];
            from[s] = to[s];
            to[s] = start;
        }

        int swapKinds(int k, int l) {
            int changed = 0;
            for (int s = 0; s < steps; s++) {
                if (k != l && (kind[s] == k || kind[s] == l)) {
                    kind[s] = kind[s] == k ? l : k;
                    changed++;
                }
            }
            return changed;
        }

        int beginOf(int s, int direction) {
            return direction == 0 ? from[s] : to[s];
        }

        int endOf(int s, int direction) {
            return direction == 0 ? to[s] : from[s];
        }

        /** Those of the positions that a going can be at. */
        int enter(int positions, int s, int direction) {
            return positions & pattern.enteredBy[direction * KINDS + kind[s]];
        }
    }

    /** The states that are remembered, in a ring: the oldest one gives its place to the newest. */
    private static final class History {
        private final State[] ring = new State[MAX_REMEMBERED];
        private int next;
        int count;

        History(Pattern first) {
            for (int i = 0; i < MAX_REMEMBERED; i++) {
                ring[i] = new State(first);
            }
        }

        void remember(State state) {
            ring[next].copyFrom(state);
            next = (next + 1) % MAX_REMEMBERED;
            count = Math.min(count + 1, MAX_REMEMBERED);
        }

        void bringBack(State state) {
            next = (next + MAX_REMEMBERED - 1) % MAX_REMEMBERED;
            count--;
            state.copyFrom(ring[next]);
        }

        void forgetAll() {
            count = 0;
        }
    }

    /**
     * The positions that wait for their cost to come, by person. A going adds 1 to 9 to the cost, so
     * ten rows used in turn never mix two costs.
     */
    private static final class Wheel {
        static final int ROWS = MAX_COST + 1;

        private final int[] waiting = new int[ROWS * MAX_PEOPLE];

        void clear() {
            for (int i = 0; i < ROWS * MAX_PEOPLE; i++) {
                waiting[i] = 0;
            }
        }

        void put(int level, int v, int positions) {
            waiting[level % ROWS * MAX_PEOPLE + v] |= positions;
        }

        int draw(int level, int v) {
            int place = level % ROWS * MAX_PEOPLE + v;
            int positions = waiting[place];
            waiting[place] = 0;
            return positions;
        }
    }

    /**
     * The costs of the best paths from one person: goes through all costs upwards, at each with
     * all positions at once that a person is reached at.
     */
    private static final class Search {
        final int[] costs = new int[MAX_PEOPLE];
        int pairs;
        int greatest;
        private final int[] reached = new int[MAX_PEOPLE];
        private final Wheel wheel = new Wheel();
        private int blocked;

        /** Finds the costs to all people, without the blocked steps, given as bits. */
        void fromPerson(State graph, int p, int blockedSteps) {
            run(graph, p, NONE, blockedSteps, COST_BOUND);
        }

        /** The cost to q, without the blocked steps; NONE also if it is not below the limit. */
        int between(State graph, int p, int q, int blockedSteps, int limit) {
            run(graph, p, q, blockedSteps, limit);
            return costs[q];
        }

        boolean finds(State graph, int p, int q, int blockedSteps) {
            run(graph, p, q, blockedSteps, COST_BOUND);
            return costs[q] != NONE;
        }

        int peopleFrom(State graph, int p) {
            fromPerson(graph, p, 0);
            int people = 0;
            for (int q = 0; q < graph.people; q++) {
                people |= costs[q] == NONE ? 0 : 1 << q;
            }
            return people;
        }

        int peopleTo(State graph, int q) {
            int people = 0;
            for (int p = 0; p < graph.people; p++) {
                people |= finds(graph, p, q, 0) ? 1 << p : 0;
            }
            return people;
        }

        /** Finds how many pairs of people have a path, and the greatest cost of a best one. */
        void survey(State graph, int blockedSteps) {
            pairs = 0;
            greatest = NONE;
            for (int p = 0; p < graph.people; p++) {
                fromPerson(graph, p, blockedSteps);
                for (int q = 0; q < graph.people; q++) {
                    pairs += costs[q] == NONE ? 0 : 1;
                    greatest = Math.max(greatest, costs[q]);
                }
            }
        }

        /** Whether a path of the last search could go on from a person with such a going. */
        boolean couldGo(State graph, int v, int going) {
            return (graph.pattern.following(reached[v]) & graph.pattern.enteredBy[going]) != 0;
        }

        private void run(State graph, int p, int q, int blockedSteps, int limit) {
            reset(blockedSteps);
            wheel.put(0, p, BEGINNING);
            int idle = 0;
            for (int level = 0; level < limit && idle < Wheel.ROWS; level++) {
                idle++;
                for (int v = 0; v < graph.people; v++) {
                    int fresh = wheel.draw(level, v) & ~reached[v];
                    if (fresh != 0) {
                        idle = 0;
                        settle(graph, v, fresh, level);
                    }
                }
                if (q != NONE && costs[q] != NONE) {
                    return;
                }
            }
        }

        private void reset(int blockedSteps) {
            blocked = blockedSteps;
            wheel.clear();
            for (int v = 0; v < MAX_PEOPLE; v++) {
                costs[v] = NONE;
                reached[v] = 0;
            }
        }

        private void settle(State graph, int v, int fresh, int level) {
            reached[v] |= fresh;
            if (costs[v] == NONE && graph.pattern.accepts(fresh)) {
                costs[v] = level;
            }
            int next = graph.pattern.following(fresh);
            for (int s = 0; s < graph.steps; s++) {
                if (graph.from[s] == v && !isBlocked(s)) {
                    wheel.put(level + graph.cost[s], graph.to[s], graph.enter(next, s, 0));
                }
                if (graph.to[s] == v && !isBlocked(s)) {
                    wheel.put(level + graph.cost[s], graph.from[s], graph.enter(next, s, 1));
                }
            }
        }

        private boolean isBlocked(int s) {
            return (blocked >> s & 1) != 0;
        }
    }

    /**
     * The best paths to one person, found backwards from it: then each going of the best path can
     * be told by what is left behind it.
     */
    private static final class BestPath {
        // More than the goings of any best path, so that costs and goings compare as one number.
        private static final int UNIT = 256;
        private static final int NO_PATH = COST_BOUND * UNIT;

        // By person and position: UNIT * the cost that is left + the number of goings.
        private final int[] rest = new int[MAX_PEOPLE * POSITIONS];
        private final int[] settled = new int[MAX_PEOPLE];
        private final Wheel wheel = new Wheel();
        private int here;
        private int positions;
        private int left;

        /** Finds what is left to q from everywhere; ask for paths only after it, in the same graph. */
        void aimAt(State graph, int q) {
            reset();
            offer(q, graph.pattern.accepting, 0);
            int idle = 0;
            for (int level = 0; level < COST_BOUND && idle < Wheel.ROWS; level++) {
                idle++;
                for (int v = 0; v < graph.people; v++) {
                    int fresh = wheel.draw(level, v) & ~settled[v];
                    if (fresh != 0) {
                        idle = 0;
                        settle(graph, v, fresh);
                    }
                }
            }
        }

        int goingsFrom(int p) {
            int all = rest[p * POSITIONS];
            return all == NO_PATH ? NONE : all % UNIT;
        }

        /** Walks the best path from p as far as its going i. */
        int goingAt(State graph, int p, int i) {
            if (i >= goingsFrom(p)) {
                return NONE;
            }
            here = p;
            positions = BEGINNING;
            left = rest[p * POSITIONS];
            int going = NONE;
            for (int n = 0; n <= i; n++) {
                going = advance(graph);
            }
            return going;
        }

        private void reset() {
            wheel.clear();
            for (int i = 0; i < MAX_PEOPLE * POSITIONS; i++) {
                rest[i] = NO_PATH;
            }
            for (int v = 0; v < MAX_PEOPLE; v++) {
                settled[v] = 0;
            }
        }

        private void offer(int v, int places, int value) {
            int better = 0;
            for (int i = 0; i < POSITIONS && places >> i != 0; i++) {
                if ((places >> i & 1) != 0 && value < rest[v * POSITIONS + i]) {
                    rest[v * POSITIONS + i] = value;
                    better |= 1 << i;
                }
            }
            wheel.put(value / UNIT, v, better);
        }

        private void settle(State graph, int v, int fresh) {
            settled[v] |= fresh;
            for (int i = 0; i < POSITIONS && fresh >> i != 0; i++) {
                if ((fresh >> i & 1) != 0) {
                    goBack(graph, v, i);
                }
            }
        }

        /** Offers what is left before each going that can enter the person at the position. */
        private void goBack(State graph, int v, int position) {
            int before = graph.pattern.before[position];
            for (int s = 0; s < graph.steps; s++) {
                int value = rest[v * POSITIONS + position] + UNIT * graph.cost[s] + 1;
                if (graph.to[s] == v && graph.enter(1 << position, s, 0) != 0) {
                    offer(graph.from[s], before, value);
                }
                if (graph.from[s] == v && graph.enter(1 << position, s, 1) != 0) {
                    offer(graph.to[s], before, value);
                }
            }
        }

        /** Goes on by the first going that leaves exactly what a best path leaves. */
        private int advance(State graph) {
            for (int s = 0; s < graph.steps; s++) {
                for (int direction = 0; direction < 2; direction++) {
                    if (goes(graph, s, direction)) {
                        return 10 * s + direction;
                    }
                }
            }
            return NONE;
        }

        private boolean goes(State graph, int s, int direction) {
            if (graph.beginOf(s, direction) != here) {
                return false;
            }
            int end = graph.endOf(s, direction);
            int then = left - UNIT * graph.cost[s] - 1;
            int next = graph.enter(graph.pattern.following(positions), s, direction);
            int entered = leaving(end, next, then);
            if (entered == 0) {
                return false;
            }
            here = end;
            positions = entered;
            left = then;
            return true;
        }

        /** Those of the positions at a person from which exactly so much is left. */
        private int leaving(int v, int entered, int value) {
            int exact = 0;
            for (int i = 0; i < POSITIONS && entered >> i != 0; i++) {
                if ((entered >> i & 1) != 0 && rest[v * POSITIONS + i] == value) {
                    exact |= 1 << i;
                }
            }
            return exact;
        }
    }
}
