/**
 * A heap of numbers, pairs and thunks (calculations that are put off until they are wanted, and
 * then done once), with a young and an old space.
 */
public final class LazyHeap {
    private static final int ROOTS = 8;
    private static final int YOUNG_ROOM = 40;
    private static final int OLD_ROOM = 80;
    private static final int MOST_RUNNING = 12;

    /** What a root, or a part of a cell, has in it when it holds no object. */
    private static final int NOTHING = -1;

    private static final int FREE = 0;
    private static final int NUMBER = 1;
    private static final int PAIR = 2;
    private static final int THUNK = 3;
    private static final int LINK = 4;
    private static final int OLD_MARK = 4;

    /** The words of an object, by its kind. */
    private static final int[] SIZES = {0, 2, 3, 4, 4};

    /** Numbers are the smallest objects: both spaces full of them is the most there can be. */
    private static final int CELLS = (YOUNG_ROOM + OLD_ROOM) / 2;

    private static final int SUM = 0;
    private static final int DIFFERENCE = 1;
    private static final int PRODUCT = 2;
    private static final int QUOTIENT = 3;
    private static final int FIRST = 4;
    private static final int SECOND = 5;
    private static final int CHOICE = 6;
    private static final int RESCUE = 7;
    private static final int SAME = 8;

    // An outcome of evaluating is a value's cell, or one of these, which are no cells.
    private static final int FAILED_BY_ZERO = -1;
    private static final int FAILED_BY_KIND = -2;
    private static final int FAILED_BY_LOOP = -3;
    private static final int FAILED_BY_ROOM = -4;

    private final Cells cells;
    private final Collector collector;
    private final Evaluator evaluator;

    public LazyHeap() {
        cells = new Cells();
        collector = new Collector(cells);
        evaluator = new Evaluator(cells, collector);
    }

    public int number(int r, int v) throws IndexOutOfBoundsException, UnsupportedOperationException {
        requireRoot(r);
        requireRoom(NUMBER);
        cells.roots[r] = cells.addNumber(v);
        return cells.youngWords;
    }

    public int pair(int r, int a, int b) throws IndexOutOfBoundsException, UnsupportedOperationException {
        requireRoot(r);
        requireHolding(a);
        requireHolding(b);
        requireRoom(PAIR);
        cells.roots[r] = cells.addHolder(PAIR, 0, cells.roots[a], cells.roots[b]);
        return cells.youngWords;
    }

    public int thunk(int r, int operation, int a, int b)
            throws IndexOutOfBoundsException, IllegalArgumentException, UnsupportedOperationException {
        requireRoot(r);
        requireHolding(a);
        requireHolding(b);
        if (operation < SUM || operation > SAME) {
            throw new IllegalArgumentException("there is no such operation");
        }
        requireRoom(THUNK);
        cells.roots[r] = cells.addHolder(THUNK, operation, cells.roots[a], cells.roots[b]);
        return cells.youngWords;
    }

    public void tie(int r, int b) throws IndexOutOfBoundsException, IllegalArgumentException {
        requireHolding(r);
        requireHolding(b);
        requireKind(r, THUNK);
        cells.changeSecond(cells.roots[r], cells.roots[b]);
    }

    public int force(int r)
            throws IndexOutOfBoundsException, ArithmeticException, IllegalArgumentException,
                    IllegalStateException, UnsupportedOperationException {
        requireHolding(r);
        int outcome = evaluator.evaluate(cells.roots[r]);
        requireValue(outcome);
        cells.roots[r] = outcome;
        return cells.kinds[outcome];
    }

    public void part(int to, int r, boolean second) throws IndexOutOfBoundsException, IllegalArgumentException {
        requireRoot(to);
        requireHolding(r);
        requireKind(r, PAIR);
        int pair = cells.roots[r];
        cells.roots[to] = second ? cells.seconds[pair] : cells.firsts[pair];
    }

    public void copy(int to, int r) throws IndexOutOfBoundsException {
        requireRoot(to);
        requireRoot(r);
        cells.roots[to] = cells.roots[r];
    }

    public void drop(int r) throws IndexOutOfBoundsException {
        requireRoot(r);
        cells.roots[r] = NOTHING;
    }

    public int kind(int r) throws IndexOutOfBoundsException {
        requireRoot(r);
        int object = cells.roots[r];
        if (object == NOTHING) {
            return 0;
        }
        return cells.old[object] ? cells.kinds[object] + OLD_MARK : cells.kinds[object];
    }

    public int value(int r) throws IndexOutOfBoundsException, IllegalArgumentException {
        requireHolding(r);
        requireKind(r, NUMBER);
        return cells.numbers[cells.roots[r]];
    }

    public boolean same(int a, int b) throws IndexOutOfBoundsException {
        requireRoot(a);
        requireRoot(b);
        return cells.roots[a] != NOTHING && cells.roots[a] == cells.roots[b];
    }

    public int collect(boolean full) throws UnsupportedOperationException {
        boolean done = full ? collector.collectAll() : collector.collectYoung();
        if (!done) {
            throw new UnsupportedOperationException("there may be no such collection, or it fails");
        }
        return cells.oldWords;
    }

    public int count(int which) throws IllegalArgumentException {
        switch (which) {
            case 0:
                return cells.youngWords;
            case 1:
                return cells.oldWords;
            case 2:
                return collector.youngCollections;
            case 3:
                return collector.fullCollections;
            case 4:
                return collector.grownOld;
            case 5:
                return cells.countRemembered();
            case 6:
                return cells.linked;
            default:
                throw new IllegalArgumentException("there is no such count");
        }
    }

    private static void requireRoot(int r) {
        if (r < 0 || r >= ROOTS) {
            throw new IndexOutOfBoundsException("there is no such root");
        }
    }

    private void requireHolding(int r) {
        if (r < 0 || r >= ROOTS || cells.roots[r] == NOTHING) {
            throw new IndexOutOfBoundsException("there is no such root, or it holds nothing");
        }
    }

    private void requireKind(int r, int wanted) {
        if (cells.kinds[cells.roots[r]] != wanted) {
            throw new IllegalArgumentException("the root holds an object of another kind");
        }
    }

    private void requireRoom(int wanted) {
        if (!collector.makeRoom(SIZES[wanted])) {
            throw new UnsupportedOperationException("there is no room");
        }
    }

    private static void requireValue(int outcome) {
        switch (outcome) {
            case FAILED_BY_ZERO:
                throw new ArithmeticException("a quotient by 0");
            case FAILED_BY_KIND:
                throw new IllegalArgumentException("a number where a pair is wanted, or the reverse");
            case FAILED_BY_LOOP:
                throw new IllegalStateException("a thunk that is running, or too many that are");
            case FAILED_BY_ROOM:
                throw new UnsupportedOperationException("there is no room");
            default:
                return;
        }
    }

    /**
     * All objects, and the roots. An object stays in its cell as long as it is there: whether it is
     * old is a mark on it, so that a collection moves nothing and a cell's number can be kept.
     */
    private static final class Cells {
        final int[] roots = new int[ROOTS];
        final int[] kinds = new int[CELLS];
        final int[] numbers = new int[CELLS];
        final int[] operations = new int[CELLS];
        /** The first of a pair, the a of a thunk, that to which a link links; else NOTHING. */
        final int[] firsts = new int[CELLS];
        /** The second of a pair, the b of a thunk; else NOTHING. */
        final int[] seconds = new int[CELLS];
        final boolean[] old = new boolean[CELLS];
        final boolean[] running = new boolean[CELLS];
        final boolean[] remembered = new boolean[CELLS];
        int youngWords = 0;
        int oldWords = 0;
        int linked = 0;

        Cells() {
            for (int r = 0; r < ROOTS; r++) {
                roots[r] = NOTHING;
            }
            for (int cell = 0; cell < CELLS; cell++) {
                firsts[cell] = NOTHING;
                seconds[cell] = NOTHING;
            }
        }

        int addNumber(int v) {
            int cell = takeCell(NUMBER);
            numbers[cell] = v;
            return cell;
        }

        int addHolder(int kind, int operation, int first, int second) {
            int cell = takeCell(kind);
            operations[cell] = operation;
            firsts[cell] = first;
            seconds[cell] = second;
            return cell;
        }

        /** Room was made before, and then a cell is free: the last one, if none before it is. */
        private int takeCell(int kind) {
            int cell = 0;
            while (cell < CELLS - 1 && kinds[cell] != FREE) {
                cell++;
            }
            kinds[cell] = kind;
            youngWords += SIZES[kind];
            return cell;
        }

        void freeCell(int cell) {
            kinds[cell] = FREE;
            firsts[cell] = NOTHING;
            seconds[cell] = NOTHING;
            old[cell] = false;
        }

        void changeSecond(int thunk, int second) {
            seconds[thunk] = second;
            rememberIfHoldingYoung(thunk, second);
        }

        void becomeLink(int thunk, int value) {
            kinds[thunk] = LINK;
            firsts[thunk] = value;
            seconds[thunk] = NOTHING;
            linked++;
            rememberIfHoldingYoung(thunk, value);
            holdInstead(thunk, value);
        }

        private void rememberIfHoldingYoung(int changed, int held) {
            if (old[changed] && !old[held]) {
                remembered[changed] = true;
            }
        }

        /**
         * Whatever holds a link is meant to hold that to which it links: when that is done at once,
         * nothing ever holds a link, and none has to be followed.
         */
        private void holdInstead(int link, int value) {
            for (int r = 0; r < ROOTS; r++) {
                if (roots[r] == link) {
                    roots[r] = value;
                }
            }
            for (int cell = 0; cell < CELLS; cell++) {
                if (firsts[cell] == link) {
                    firsts[cell] = value;
                }
                if (seconds[cell] == link) {
                    seconds[cell] = value;
                }
            }
        }

        int countRemembered() {
            int found = 0;
            for (int cell = 0; cell < CELLS; cell++) {
                if (remembered[cell]) {
                    found++;
                }
            }
            return found;
        }
    }

    /** Makes room: finds the objects that are needed, and frees the cells of the others. */
    private static final class Collector {
        private final Cells cells;
        private final boolean[] needed = new boolean[CELLS];
        /** The needed objects in the order in which they were found. */
        private final int[] found = new int[CELLS];
        private int foundCount = 0;
        int youngCollections = 0;
        int fullCollections = 0;
        int grownOld = 0;

        Collector(Cells cells) {
            this.cells = cells;
        }

        boolean makeRoom(int size) {
            if (cells.youngWords + size <= YOUNG_ROOM) {
                return true;
            }
            return collectYoung() || collectAll();
        }

        /** The minor collection: false if there may be none. */
        boolean collectYoung() {
            if (cells.youngWords + cells.oldWords > OLD_ROOM) {
                return false;
            }
            findNeeded(true);
            for (int cell = 0; cell < CELLS; cell++) {
                if (!cells.old[cell]) {
                    keepOrFree(cell);
                }
            }
            cells.oldWords += foundWords();
            grownOld += foundCount;
            youngCollections++;
            startYoungAnew();
            return true;
        }

        /** The full collection: false if it fails. */
        boolean collectAll() {
            findNeeded(false);
            int words = foundWords();
            if (words > OLD_ROOM) {
                return false;
            }
            for (int cell = 0; cell < CELLS; cell++) {
                keepOrFree(cell);
            }
            cells.oldWords = words;
            fullCollections++;
            startYoungAnew();
            return true;
        }

        /** What old objects hold matters to a minor collection only if they are remembered or run. */
        private void findNeeded(boolean youngOnly) {
            foundCount = 0;
            for (int cell = 0; cell < CELLS; cell++) {
                needed[cell] = false;
            }
            for (int r = 0; r < ROOTS; r++) {
                need(cells.roots[r], youngOnly);
            }
            for (int cell = 0; cell < CELLS; cell++) {
                if (cells.running[cell]) {
                    need(cell, youngOnly);
                }
                if (cells.running[cell] || youngOnly && cells.remembered[cell]) {
                    need(cells.firsts[cell], youngOnly);
                    need(cells.seconds[cell], youngOnly);
                }
            }
            for (int next = 0; next < foundCount && next < CELLS; next++) {
                need(cells.firsts[found[next]], youngOnly);
                need(cells.seconds[found[next]], youngOnly);
            }
        }

        private void need(int object, boolean youngOnly) {
            if (object == NOTHING || needed[object] || youngOnly && cells.old[object]) {
                return;
            }
            needed[object] = true;
            found[foundCount] = object;
            foundCount++;
        }

        private int foundWords() {
            int words = 0;
            for (int next = 0; next < foundCount; next++) {
                words += SIZES[cells.kinds[found[next]]];
            }
            return words;
        }

        private void keepOrFree(int cell) {
            if (needed[cell]) {
                cells.old[cell] = true;
            } else {
                cells.freeCell(cell);
            }
        }

        private void startYoungAnew() {
            cells.youngWords = 0;
            for (int cell = 0; cell < CELLS; cell++) {
                cells.remembered[cell] = false;
            }
        }
    }

    /**
     * Evaluates objects. What a running thunk has evaluated needs no root of its own while room is
     * made: the thunk holds its values, in place of the thunks that they were found for.
     */
    private static final class Evaluator {
        private final Cells cells;
        private final Collector collector;
        private int runningCount = 0;

        Evaluator(Cells cells, Collector collector) {
            this.cells = cells;
            this.collector = collector;
        }

        /** The recursion ends where the most thunks that may run are running. */
        private int evaluate(int object) {
            if (cells.kinds[object] != THUNK) {
                return object;
            }
            if (cells.running[object] || runningCount >= MOST_RUNNING) {
                return FAILED_BY_LOOP;
            }
            cells.running[object] = true;
            runningCount++;
            int outcome = calculate(object);
            cells.running[object] = false;
            runningCount--;
            if (outcome >= 0) {
                cells.becomeLink(object, outcome);
            }
            return outcome;
        }

        private int calculate(int thunk) {
            switch (cells.operations[thunk]) {
                case FIRST:
                case SECOND:
                    return select(thunk);
                case CHOICE:
                    return choose(thunk);
                case RESCUE:
                    return rescue(thunk);
                case SAME:
                    return evaluate(cells.firsts[thunk]);
                default:
                    return reckon(thunk);
            }
        }

        private int select(int thunk) {
            int pair = evaluate(cells.firsts[thunk]);
            if (pair < 0) {
                return pair;
            }
            if (cells.kinds[pair] != PAIR) {
                return FAILED_BY_KIND;
            }
            boolean first = cells.operations[thunk] == FIRST;
            return evaluate(first ? cells.firsts[pair] : cells.seconds[pair]);
        }

        private int choose(int thunk) {
            int choice = evaluate(cells.firsts[thunk]);
            if (choice < 0) {
                return choice;
            }
            int pair = evaluate(cells.seconds[thunk]);
            if (pair < 0) {
                return pair;
            }
            if (cells.kinds[choice] != NUMBER || cells.kinds[pair] != PAIR) {
                return FAILED_BY_KIND;
            }
            boolean first = cells.numbers[choice] != 0;
            return evaluate(first ? cells.firsts[pair] : cells.seconds[pair]);
        }

        private int rescue(int thunk) {
            int outcome = evaluate(cells.firsts[thunk]);
            if (outcome == FAILED_BY_ZERO || outcome == FAILED_BY_KIND) {
                return evaluate(cells.seconds[thunk]);
            }
            return outcome;
        }

        private int reckon(int thunk) {
            int left = evaluate(cells.firsts[thunk]);
            if (left < 0) {
                return left;
            }
            int right = evaluate(cells.seconds[thunk]);
            if (right < 0) {
                return right;
            }
            if (cells.kinds[left] != NUMBER || cells.kinds[right] != NUMBER) {
                return FAILED_BY_KIND;
            }
            int operation = cells.operations[thunk];
            if (operation == QUOTIENT && cells.numbers[right] == 0) {
                return FAILED_BY_ZERO;
            }
            if (!collector.makeRoom(SIZES[NUMBER])) {
                return FAILED_BY_ROOM;
            }
            return cells.addNumber(result(operation, cells.numbers[left], cells.numbers[right]));
        }

        private static int result(int operation, int x, int y) {
            switch (operation) {
                case SUM:
                    return x + y;
                case DIFFERENCE:
                    return x - y;
                case PRODUCT:
                    return x * y;
                default:
                    // A quotient by 0 has failed before: this only keeps the division itself safe.
                    return y == 0 ? 0 : x / y;
            }
        }
    }
}
