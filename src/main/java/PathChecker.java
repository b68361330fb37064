/**
 * Says whether all endless paths of a small structure keep to a formula about time, gives the
 * formula its normal form, judges single paths that end in a loop, and finds the first of those
 * that breaks it.
 *
 * <p>All rows are made with the object and used again, so that no call makes any but exceptions.
 */
public final class PathChecker {
    /** There is none. */
    public static final int NONE = -1;

    private static final int STATES = 6;
    private static final int ALL_STATES = 63;
    private static final int ALL_MARKS = 15;
    private static final int TEXT_LIMIT = 32;
    private static final int FIRST_SIGN = 33;
    private static final int LAST_SIGN = 126;
    private static final int DEPTH_LIMIT = 6;
    private static final int TIMED_LIMIT = 5;
    /** Each character of the text gives at most one of the normal form, F and G give two. */
    private static final int FORM_LIMIT = TEXT_LIMIT + TIMED_LIMIT;
    private static final int ROW_LIMIT = 8;
    private static final int LASSO_LIMIT = 6;
    /** How many ways there are to say of each timed operator whether it holds. */
    private static final int GUESSES = 1 << TIMED_LIMIT;
    private static final int NODES = STATES * GUESSES;
    /** Set t holds the guesses by which timed operator t holds (guess g is bit g). */
    private static final int[] GUESSES_WITH = {
        0xAAAAAAAA, 0xCCCCCCCC, 0xF0F0F0F0, 0xFF00FF00, 0xFFFF0000
    };

    private final char[] text;
    private int typed;
    private final Reader reader;
    private final Path row;
    private final Search search;
    private final Nearness nearness;
    private final Knots knots;
    private final Graph graph;
    private final NormalForm form;
    private final Structure structure;
    /** Whether graph, knots, nearness and search fit the formula and the structure of now. */
    private boolean upToDate;

    public PathChecker() {
        text = new char[TEXT_LIMIT];
        reader = new Reader();
        row = new Path(ROW_LIMIT);
        // Each of these makes the next one, so that no constructor has to hand on what it makes.
        search = new Search();
        nearness = search.nearness;
        knots = nearness.knots;
        graph = knots.graph;
        form = graph.form;
        structure = graph.structure;
    }

    public boolean type(long part) {
        int end = typed;
        for (int shift = 56; shift >= 0; shift -= 8) {
            int sign = (int) (part >>> shift) & 255;
            if (sign == 0) {
                continue;
            }
            if (sign < FIRST_SIGN || sign > LAST_SIGN || end >= TEXT_LIMIT) {
                return false;
            }
            text[end] = (char) sign;
            end++;
        }
        // Only now does the text grow: what stands behind its end counts for nothing.
        typed = end;
        return true;
    }

    public void wipe() {
        typed = 0;
    }

    public int length() {
        return typed;
    }

    public int formula() throws IllegalArgumentException, UnsupportedOperationException {
        if (!reader.reads(text, typed)) {
            throw new IllegalArgumentException();
        }
        if (reader.timed > TIMED_LIMIT) {
            throw new UnsupportedOperationException();
        }
        form.take(reader);
        typed = 0;
        upToDate = false;
        return form.timed;
    }

    public int normal(int k) throws IllegalStateException {
        if (form.isMissing()) {
            throw new IllegalStateException();
        }
        if (k == -1) {
            return form.size;
        }
        return k >= 0 && k < form.size ? form.signs[k] : NONE;
    }

    public boolean mark(int s, int marks) {
        if (!isState(s) || marks < 0 || marks > ALL_MARKS) {
            return false;
        }
        structure.marks[s] = marks;
        upToDate = false;
        return true;
    }

    public boolean link(int a, int b, boolean is) {
        if (!isState(a) || !isState(b) || structure.joins(a, b) == is) {
            return false;
        }
        structure.links[a] ^= 1 << b;
        upToDate = false;
        return true;
    }

    public int state(int s, int b) {
        if (!isState(s)) {
            return NONE;
        }
        if (b == -1) {
            return structure.marks[s];
        }
        if (!isState(b)) {
            return NONE;
        }
        return structure.joins(s, b) ? 1 : 0;
    }

    public boolean endless(int s) {
        return isState(s) && (structure.statesWithPath() >>> s & 1) == 1;
    }

    public boolean keeps(int s) throws IllegalStateException, IndexOutOfBoundsException {
        if (form.isMissing()) {
            throw new IllegalStateException();
        }
        if (!isState(s)) {
            throw new IndexOutOfBoundsException();
        }
        bringUpToDate();
        return (nearness.statesWithPath(false) >>> s & 1) == 0;
    }

    public int breaking() throws IllegalStateException {
        if (form.isMissing()) {
            throw new IllegalStateException();
        }
        bringUpToDate();
        return nearness.statesWithPath(false);
    }

    public int keeping() throws IllegalStateException {
        if (form.isMissing()) {
            throw new IllegalStateException();
        }
        bringUpToDate();
        return nearness.statesWithPath(true);
    }

    public int witness(int s, int k) throws IllegalStateException {
        if (form.isMissing()) {
            throw new IllegalStateException();
        }
        if (!isState(s)) {
            return NONE;
        }
        bringUpToDate();
        search.lookFrom(s);
        if (search.loop == NONE) {
            return NONE;
        }
        if (k == -1) {
            return search.lasso.count;
        }
        if (k == -2) {
            return search.loop;
        }
        return search.lasso.hasPlace(k) ? search.lasso.states[k] : NONE;
    }

    public int go(int s) {
        if (!isState(s) || row.count >= ROW_LIMIT) {
            return NONE;
        }
        row.states[row.count] = s;
        row.count++;
        return row.count;
    }

    public void clear() {
        row.count = 0;
    }

    public boolean judge(int j, int i)
            throws IllegalStateException, IndexOutOfBoundsException, UnsupportedOperationException {
        if (form.isMissing() || row.count == 0) {
            throw new IllegalStateException();
        }
        if (!row.hasPlace(i) || !row.hasPlace(j)) {
            throw new IndexOutOfBoundsException();
        }
        if (!row.isLinked(structure, j)) {
            throw new UnsupportedOperationException();
        }
        return (row.placesOf(form, structure, j) >>> i & 1) == 1;
    }

    private static boolean isState(int s) {
        return s >= 0 && s < STATES;
    }

    private void bringUpToDate() {
        if (!upToDate) {
            graph.build();
            knots.find();
            nearness.measure();
            search.forget();
            upToDate = true;
        }
    }

    /** The six states with their marks and links. */
    private static final class Structure {
        private final int[] marks = new int[STATES];
        /** Bit b of number a: a is linked to b. */
        private final int[] links = new int[STATES];

        boolean joins(int a, int b) {
            return (links[a] >>> b & 1) == 1;
        }

        int statesWithPath() {
            int left = ALL_STATES;
            // A round without a loss changes nothing any more, so one round a state is enough.
            for (int round = 0; round < STATES; round++) {
                for (int s = 0; s < STATES; s++) {
                    if ((links[s] & left) == 0) {
                        left &= ~(1 << s);
                    }
                }
            }
            return left;
        }
    }

    /**
     * Reads a text by the grammar into a tree of parts. Operators wait until what binds more
     * tightly to their right has been joined, so that deep formulas need no deep calls.
     */
    private static final class Reader {
        private static final int RANK_OF_PREFIX = 5;
        private static final int LOWEST_RANK = 1;

        private final char[] signs = new char[TEXT_LIMIT];
        private final int[] firsts = new int[TEXT_LIMIT];
        private final int[] seconds = new int[TEXT_LIMIT];
        private int parts;
        private int timed;
        private final char[] waiting = new char[TEXT_LIMIT];
        private int waitingCount;
        private final int[] ready = new int[TEXT_LIMIT];
        private int readyCount;
        private int depth;
        private boolean wantsUnit;

        /** Whether the first count characters are a formula; its root is then the last part. */
        boolean reads(char[] text, int count) {
            startAnew();
            for (int at = 0; at < count && at < TEXT_LIMIT; at++) {
                boolean fits = wantsUnit ? takeInUnit(text[at]) : takeBehindUnit(text[at]);
                if (!fits) {
                    return false;
                }
                if (isTimed(text[at])) {
                    timed++;
                }
            }
            if (wantsUnit || depth > 0) {
                return false;
            }
            joinDownTo(LOWEST_RANK);
            return true;
        }

        private void startAnew() {
            parts = 0;
            timed = 0;
            waitingCount = 0;
            readyCount = 0;
            depth = 0;
            wantsUnit = true;
        }

        private boolean takeInUnit(char sign) {
            if (isLeaf(sign)) {
                ready[readyCount] = newPart(sign, NONE, NONE);
                readyCount++;
                wantsUnit = false;
                return true;
            }
            if (sign == '(') {
                depth++;
            } else if (rank(sign) != RANK_OF_PREFIX) {
                return false;
            }
            await(sign);
            return depth <= DEPTH_LIMIT;
        }

        private boolean takeBehindUnit(char sign) {
            if (sign == ')') {
                joinDownTo(LOWEST_RANK);
                // Nothing but an open parenthesis has a lower rank, so it is what waits last now.
                waitingCount = Math.max(waitingCount - 1, 0);
                depth--;
                return depth >= 0;
            }
            int rank = rank(sign);
            if (rank < LOWEST_RANK || rank == RANK_OF_PREFIX) {
                return false;
            }
            joinDownTo(groupsToTheRight(sign) ? rank + 1 : rank);
            await(sign);
            wantsUnit = true;
            return true;
        }

        private void await(char sign) {
            waiting[waitingCount] = sign;
            waitingCount++;
        }

        private void joinDownTo(int lowest) {
            while (waitingCount > 0 && rank(waiting[waitingCount - 1]) >= lowest) {
                waitingCount--;
                join(waiting[waitingCount]);
            }
        }

        private void join(char sign) {
            int last = ready[readyCount - 1];
            if (rank(sign) == RANK_OF_PREFIX) {
                ready[readyCount - 1] = newPart(sign, last, NONE);
            } else {
                readyCount--;
                ready[readyCount - 1] = newPart(sign, ready[readyCount - 1], last);
            }
        }

        private int newPart(char sign, int first, int second) {
            int part = parts;
            signs[part] = sign;
            firsts[part] = first;
            seconds[part] = second;
            parts++;
            return part;
        }

        private static boolean isLeaf(char sign) {
            return (sign >= 'p' && sign <= 's') || sign == '1' || sign == '0';
        }

        private static boolean isTimed(char sign) {
            return sign == 'X' || sign == 'F' || sign == 'G' || sign == 'U' || sign == 'R';
        }

        private static boolean groupsToTheRight(char sign) {
            return sign == '>' || sign == 'U' || sign == 'R';
        }

        /** The higher, the more tightly it binds; 0 for what is no operator. */
        private static int rank(char sign) {
            switch (sign) {
                case '>':
                    return LOWEST_RANK;
                case '|':
                    return 2;
                case '&':
                    return 3;
                case 'U':
                case 'R':
                    return 4;
                case '!':
                case 'X':
                case 'F':
                case 'G':
                    return RANK_OF_PREFIX;
                default:
                    return 0;
            }
        }
    }

    /** The normal form of a formula; each of its characters begins a part of it. */
    private static final class NormalForm {
        private final char[] signs = new char[FORM_LIMIT];
        private int size;
        /** Where the second part behind & | U R begins; the first begins at the next character. */
        private final int[] seconds = new int[FORM_LIMIT];
        private final int[] ends = new int[FORM_LIMIT];
        private int timed;
        private final int[] timedParts = new int[TIMED_LIMIT];
        /** Which of the timed operators a part is, or NONE. */
        private final int[] timedNumbers = new int[FORM_LIMIT];
        private final int[] todo = new int[TEXT_LIMIT];
        private final boolean[] todoNegated = new boolean[TEXT_LIMIT];
        private int todoCount;

        boolean isMissing() {
            return size == 0;
        }

        /** Only for a text that has been read as a modest formula. */
        void take(Reader reader) {
            write(reader);
            connect();
        }

        private void write(Reader reader) {
            size = 0;
            todoCount = 0;
            keepForLater(reader.parts - 1, false);
            // Each part of the tree comes up once.
            for (int turn = 0; turn < TEXT_LIMIT && todoCount > 0; turn++) {
                todoCount--;
                int part = todo[todoCount];
                boolean negated = todoNegated[todoCount];
                char sign = reader.signs[part];
                writeSigns(sign, negated);
                // The first part is kept last, as it comes up next.
                if (reader.seconds[part] != NONE) {
                    keepForLater(reader.seconds[part], negated);
                }
                if (reader.firsts[part] != NONE) {
                    boolean turns = sign == '!' || sign == '>';
                    keepForLater(reader.firsts[part], negated != turns);
                }
            }
        }

        private void keepForLater(int part, boolean negated) {
            todo[todoCount] = part;
            todoNegated[todoCount] = negated;
            todoCount++;
        }

        private void writeSigns(char sign, boolean negated) {
            switch (sign) {
                case '!':
                    break;
                case '>':
                    add(negated ? '&' : '|');
                    break;
                case 'F':
                    add(negated ? 'R' : 'U');
                    add(negated ? '0' : '1');
                    break;
                case 'G':
                    add(negated ? 'U' : 'R');
                    add(negated ? '1' : '0');
                    break;
                default:
                    add(negated ? opposite(sign) : sign);
                    break;
            }
        }

        private void add(char sign) {
            if (size < FORM_LIMIT) {
                signs[size] = sign;
                size++;
            }
        }

        private static char opposite(char sign) {
            switch (sign) {
                case '&':
                    return '|';
                case '|':
                    return '&';
                case 'U':
                    return 'R';
                case 'R':
                    return 'U';
                case '1':
                    return '0';
                case '0':
                    return '1';
                case 'X':
                    return 'X';
                default:
                    return (char) ('A' + (sign - 'p'));
            }
        }

        /** Goes from the end to the front, so that a part's own parts are known before it. */
        private void connect() {
            timed = 0;
            for (int part = size - 1; part >= 0; part--) {
                seconds[part] = NONE;
                timedNumbers[part] = NONE;
                ends[part] = part + 1;
                if (signs[part] == 'X') {
                    ends[part] = ends[part + 1];
                } else if (isBinary(signs[part])) {
                    seconds[part] = ends[part + 1];
                    ends[part] = ends[seconds[part]];
                }
                if (Reader.isTimed(signs[part]) && timed < TIMED_LIMIT) {
                    timedNumbers[part] = timed;
                    timedParts[timed] = part;
                    timed++;
                }
            }
        }

        private static boolean isBinary(char sign) {
            return sign == '&' || sign == '|' || sign == 'U' || sign == 'R';
        }

        /** Whether a part without parts of its own holds in a state with these marks. */
        static boolean leafHolds(char sign, int marks) {
            if (sign >= 'p' && sign <= 's') {
                return (marks >>> (sign - 'p') & 1) == 1;
            }
            if (sign >= 'A' && sign <= 'D') {
                return (marks >>> (sign - 'A') & 1) == 0;
            }
            return sign == '1';
        }
    }

    /** A row of states whose last one goes on at a place of the row. Sets of places are bits. */
    private static final class Path {
        private final int[] states;
        private int count;
        /** By part of the normal form, the places at which it holds. */
        private final int[] holds = new int[FORM_LIMIT];

        Path(int limit) {
            states = new int[limit];
        }

        boolean hasPlace(int place) {
            return place >= 0 && place < count;
        }

        boolean isLinked(Structure structure, int loop) {
            for (int place = 0; place < count; place++) {
                int next = place + 1 < count ? place + 1 : loop;
                if (!structure.joins(states[place], states[next])) {
                    return false;
                }
            }
            return true;
        }

        /** The places at which the formula holds. */
        int placesOf(NormalForm form, Structure structure, int loop) {
            for (int part = form.size - 1; part >= 0; part--) {
                char sign = form.signs[part];
                int first = part + 1;
                int second = form.seconds[part];
                switch (sign) {
                    case '&':
                        holds[part] = holds[first] & holds[second];
                        break;
                    case '|':
                        holds[part] = holds[first] | holds[second];
                        break;
                    case 'X':
                        holds[part] = placesBefore(holds[first], loop);
                        break;
                    case 'U':
                        holds[part] = placesOfUntil(holds[first], holds[second], loop);
                        break;
                    case 'R':
                        holds[part] = placesOfRelease(holds[first], holds[second], loop);
                        break;
                    default:
                        holds[part] = placesOfLeaf(sign, structure);
                        break;
                }
            }
            return holds[0];
        }

        /** Grows from the places where it holds at once: a round a place is enough. */
        private int placesOfUntil(int first, int second, int loop) {
            int places = second;
            for (int round = 0; round < count; round++) {
                places = second | (first & placesBefore(places, loop));
            }
            return places;
        }

        /** Shrinks from the places where it is not broken at once: a round a place is enough. */
        private int placesOfRelease(int first, int second, int loop) {
            int places = second;
            for (int round = 0; round < count; round++) {
                places = second & (first | placesBefore(places, loop));
            }
            return places;
        }

        /** The places whose next one is in the set. */
        private int placesBefore(int places, int loop) {
            return places >>> 1 | (places >>> loop & 1) << (count - 1);
        }

        private int placesOfLeaf(char sign, Structure structure) {
            int places = 0;
            for (int place = 0; place < count; place++) {
                if (NormalForm.leafHolds(sign, structure.marks[states[place]])) {
                    places |= 1 << place;
                }
            }
            return places;
        }
    }

    /**
     * The nodes are a state with a guess that says of each timed operator whether it holds there.
     * Along a path a guess and the state before settle the guess before; a path's guesses are the
     * true ones if, besides, no U is put off for ever and no R is refused for ever without cause.
     */
    private static final class Graph {
        private final NormalForm form = new NormalForm();
        private final Structure structure = new Structure();
        private int guesses;
        /** By part: the guesses by which it holds in the state looked at. */
        private final int[] here = new int[FORM_LIMIT];
        /** By part: the guesses of that state by which it holds in the state before. */
        private final int[] before = new int[FORM_LIMIT];
        /** By two linked states and a guess at the second one: the guess at the first one. */
        private final int[] guessBefore = new int[STATES * NODES];
        /** By state: the guesses by which the formula holds. */
        private final int[] holding = new int[STATES];
        /** By state and timed operator: the guesses that put nothing off. */
        private final int[] prompt = new int[STATES * TIMED_LIMIT];

        void build() {
            guesses = 1 << form.timed;
            for (int to = 0; to < STATES; to++) {
                weighHere(to);
                for (int from = 0; from < STATES; from++) {
                    if (structure.joins(from, to)) {
                        weighBefore(from);
                        writeGuesses(from, to);
                    }
                }
            }
        }

        private void weighHere(int s) {
            int marks = structure.marks[s];
            for (int part = form.size - 1; part >= 0; part--) {
                int number = form.timedNumbers[part];
                here[part] = number == NONE ? untimed(here, part, marks) : GUESSES_WITH[number];
            }
            holding[s] = here[0];
            for (int number = 0; number < form.timed; number++) {
                prompt[s * TIMED_LIMIT + number] = promptGuesses(form.timedParts[number], number);
            }
        }

        private int promptGuesses(int part, int number) {
            switch (form.signs[part]) {
                case 'U':
                    return ~GUESSES_WITH[number] | here[form.seconds[part]];
                case 'R':
                    return GUESSES_WITH[number] | ~here[form.seconds[part]];
                default:
                    return -1;
            }
        }

        private void weighBefore(int s) {
            int marks = structure.marks[s];
            for (int part = form.size - 1; part >= 0; part--) {
                int number = form.timedNumbers[part];
                before[part] =
                        number == NONE ? untimed(before, part, marks) : timedBefore(part, number);
            }
        }

        private int timedBefore(int part, int number) {
            int second = form.seconds[part];
            switch (form.signs[part]) {
                case 'U':
                    return before[second] | (before[part + 1] & GUESSES_WITH[number]);
                case 'R':
                    return before[second] & (before[part + 1] | GUESSES_WITH[number]);
                default:
                    return here[part + 1];
            }
        }

        private int untimed(int[] values, int part, int marks) {
            switch (form.signs[part]) {
                case '&':
                    return values[part + 1] & values[form.seconds[part]];
                case '|':
                    return values[part + 1] | values[form.seconds[part]];
                default:
                    return NormalForm.leafHolds(form.signs[part], marks) ? -1 : 0;
            }
        }

        private void writeGuesses(int from, int to) {
            for (int guess = 0; guess < guesses; guess++) {
                int earlier = 0;
                for (int number = 0; number < form.timed; number++) {
                    earlier |= (before[form.timedParts[number]] >>> guess & 1) << number;
                }
                guessBefore[(from * STATES + to) * GUESSES + guess] = earlier;
            }
        }

        /** Only for states that are linked. */
        int guessBefore(int from, int to, int guess) {
            return guessBefore[(from * STATES + to) * GUESSES + guess];
        }

        /** The guesses at the first state that go before one of these at the second. */
        int guessesBefore(int from, int to, int later) {
            int earlier = 0;
            for (int guess = 0; guess < guesses; guess++) {
                if ((later >>> guess & 1) == 1) {
                    earlier |= 1 << guessBefore(from, to, guess);
                }
            }
            return earlier;
        }

        /** Those of the later guesses before which one of the earlier ones goes. */
        int guessesAfter(int from, int to, int earlier, int later) {
            int kept = 0;
            for (int guess = 0; guess < guesses; guess++) {
                boolean isLater = (later >>> guess & 1) == 1;
                if (isLater && (earlier >>> guessBefore(from, to, guess) & 1) == 1) {
                    kept |= 1 << guess;
                }
            }
            return kept;
        }
    }

    /**
     * Finds the nodes among which a path can go on for ever with nothing put off: the sets of nodes
     * that all reach one another (Tarjan's way, against the links) and that are prompt in all.
     */
    private static final class Knots {
        /** A node has a turn for each state that may go before it, and one to be left. */
        private static final int TURN_LIMIT = NODES * (STATES + 1);

        private final Graph graph = new Graph();
        /** By state: the guesses that make a node of a knot with it. */
        private final int[] guesses = new int[STATES];
        private final int[] numbers = new int[NODES];
        private int numbered;
        private final int[] lows = new int[NODES];
        private final int[] tried = new int[NODES];
        private final int[] walk = new int[NODES];
        private int walkCount;
        private final int[] held = new int[NODES];
        private int heldCount;
        private final boolean[] isHeld = new boolean[NODES];
        private final int[] members = new int[STATES];

        void find() {
            startAnew();
            for (int s = 0; s < STATES; s++) {
                for (int guess = 0; guess < graph.guesses; guess++) {
                    int node = s * GUESSES + guess;
                    if (numbers[node] == 0) {
                        walkFrom(node);
                    }
                }
            }
        }

        private void startAnew() {
            numbered = 0;
            walkCount = 0;
            heldCount = 0;
            for (int s = 0; s < STATES; s++) {
                guesses[s] = 0;
            }
            for (int node = 0; node < NODES; node++) {
                numbers[node] = 0;
                isHeld[node] = false;
            }
        }

        private void walkFrom(int start) {
            enter(start);
            for (int turn = 0; turn < TURN_LIMIT && walkCount > 0; turn++) {
                int node = walk[walkCount - 1];
                int from = tried[node];
                if (from < STATES) {
                    tried[node]++;
                    tryStep(from, node);
                } else {
                    walkCount--;
                    if (walkCount > 0) {
                        int upper = walk[walkCount - 1];
                        lows[upper] = Math.min(lows[upper], lows[node]);
                    }
                    if (lows[node] == numbers[node]) {
                        release(node);
                    }
                }
            }
        }

        private void enter(int node) {
            numbered++;
            numbers[node] = numbered;
            lows[node] = numbered;
            tried[node] = 0;
            walk[walkCount] = node;
            walkCount++;
            held[heldCount] = node;
            heldCount++;
            isHeld[node] = true;
        }

        private void tryStep(int from, int node) {
            int to = node / GUESSES;
            if (!graph.structure.joins(from, to)) {
                return;
            }
            int earlier = from * GUESSES + graph.guessBefore(from, to, node % GUESSES);
            if (numbers[earlier] == 0) {
                enter(earlier);
            } else if (isHeld[earlier]) {
                lows[node] = Math.min(lows[node], numbers[earlier]);
            }
        }

        /** The nodes held since this one entered are those that it reaches and that reach it. */
        private void release(int first) {
            for (int s = 0; s < STATES; s++) {
                members[s] = 0;
            }
            boolean goesOn = held[heldCount - 1] != first || goesToItself(first);
            boolean done = false;
            while (heldCount > 0 && !done) {
                heldCount--;
                int node = held[heldCount];
                isHeld[node] = false;
                members[node / GUESSES] |= 1 << (node % GUESSES);
                done = node == first;
            }
            if (goesOn && isPrompt()) {
                for (int s = 0; s < STATES; s++) {
                    guesses[s] |= members[s];
                }
            }
        }

        private boolean goesToItself(int node) {
            int s = node / GUESSES;
            int guess = node % GUESSES;
            return graph.structure.joins(s, s) && graph.guessBefore(s, s, guess) == guess;
        }

        private boolean isPrompt() {
            for (int number = 0; number < graph.form.timed; number++) {
                int found = 0;
                for (int s = 0; s < STATES; s++) {
                    found |= members[s] & graph.prompt[s * TIMED_LIMIT + number];
                }
                if (found == 0) {
                    return false;
                }
            }
            return true;
        }
    }

    /** How many steps it takes from a node to a knot; where it takes any number, a path begins. */
    private static final class Nearness {
        private final Knots knots = new Knots();
        private final Graph graph = knots.graph;
        /** By steps and state: the guesses from which a knot is at most so many steps away. */
        private final int[] near = new int[LASSO_LIMIT * STATES];
        /** By state: the guesses from which a knot can be reached. */
        private final int[] reaching = new int[STATES];

        void measure() {
            for (int s = 0; s < STATES; s++) {
                near[s] = knots.guesses[s];
            }
            for (int steps = 1; steps < LASSO_LIMIT; steps++) {
                for (int s = 0; s < STATES; s++) {
                    near[steps * STATES + s] = oneStepMore(near, (steps - 1) * STATES, s);
                }
            }
            for (int s = 0; s < STATES; s++) {
                reaching[s] = near[(LASSO_LIMIT - 1) * STATES + s];
            }
            boolean grown = true;
            // Every round but the last one finds a node more.
            for (int round = 0; round <= NODES && grown; round++) {
                grown = growReaching();
            }
        }

        private boolean growReaching() {
            boolean grown = false;
            for (int s = 0; s < STATES; s++) {
                int more = oneStepMore(reaching, 0, s);
                grown = grown || more != reaching[s];
                reaching[s] = more;
            }
            return grown;
        }

        /** The guesses at s that are in the sets, which begin at base, or a step before them. */
        private int oneStepMore(int[] sets, int base, int s) {
            int found = sets[base + s];
            for (int to = 0; to < STATES; to++) {
                if (graph.structure.joins(s, to)) {
                    found |= graph.guessesBefore(s, to, sets[base + to]);
                }
            }
            return found;
        }

        /** The guesses at s that have a knot within so many steps, fewer than LASSO_LIMIT. */
        int within(int steps, int s) {
            return near[steps * STATES + s];
        }

        /** The states from which some path keeps the formula, or breaks it. */
        int statesWithPath(boolean keeping) {
            int found = 0;
            for (int s = 0; s < STATES; s++) {
                int wanted = keeping ? graph.holding[s] : ~graph.holding[s];
                if ((reaching[s] & wanted) != 0) {
                    found |= 1 << s;
                }
            }
            return found;
        }
    }

    /** Tries the lassos from a state in their order until one breaks the formula. */
    private static final class Search {
        private final Nearness nearness = new Nearness();
        private final Graph graph = nearness.graph;
        private final Path lasso = new Path(LASSO_LIMIT);
        /** By place: the guesses by which the row so far may still become a breaking lasso. */
        private final int[] open = new int[LASSO_LIMIT];
        /** The state that was last searched from, or NONE. */
        private int start = NONE;
        /** Where the lasso that was found goes on, or NONE if none was. */
        private int loop = NONE;

        void forget() {
            start = NONE;
        }

        void lookFrom(int s) {
            if (start == s) {
                return;
            }
            start = s;
            loop = NONE;
            for (int size = 1; size <= LASSO_LIMIT && loop == NONE; size++) {
                lasso.count = size;
                lasso.states[0] = s;
                open[0] = nearness.within(size - 1, s) & ~graph.holding[s];
                if (open[0] != 0) {
                    extend(0);
                }
            }
        }

        private void extend(int place) {
            int last = lasso.count - 1;
            if (place >= last) {
                closeLoop(last);
                return;
            }
            int from = lasso.states[place];
            for (int to = 0; to < STATES && loop == NONE; to++) {
                if (graph.structure.joins(from, to)) {
                    int near = nearness.within(last - place - 1, to);
                    open[place + 1] = graph.guessesAfter(from, to, open[place], near);
                    if (open[place + 1] != 0) {
                        lasso.states[place + 1] = to;
                        extend(place + 1);
                    }
                }
            }
        }

        private void closeLoop(int last) {
            for (int place = 0; place <= last && loop == NONE; place++) {
                if (mayGoOnAt(place, last)
                        && (lasso.placesOf(graph.form, graph.structure, place) & 1) == 0) {
                    loop = place;
                }
            }
        }

        private boolean mayGoOnAt(int place, int last) {
            int from = lasso.states[last];
            int to = lasso.states[place];
            return graph.structure.joins(from, to)
                    && graph.guessesAfter(from, to, open[last], open[place]) != 0;
        }
    }
}
