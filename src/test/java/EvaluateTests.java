/**
 * The sentences of '## Terms' on roots, objects, links and operations, and on how an object is
 * evaluated: each has a test of its own, which begins with its words.
 */
public final class EvaluateTests extends Checks {
    private static final int MIN = Integer.MIN_VALUE;
    private static final int MAX = Integer.MAX_VALUE;

    /** The ways to fail that need no full heap, as force throws them. */
    private static final String[] FAILURES = {NO_ARITHMETIC, NO_ARGUMENT, NO_STATE};

    // ---- roots and objects ----

    private static void roots() {
        sentence("ROOTS 0 .. 7 each hold an object or nothing.");
        LazyHeap x = new LazyHeap();
        for (int r = 0; r < 8; r++) {
            due("kind(" + r + ") of a new heap", x.kind(r), 0);
            x.number(r, 10 * r);
        }
        for (int r = 0; r < 8; r++) {
            due("value(" + r + ")", x.value(r), 10 * r);
        }
        for (int r = 0; r < 8; r++) {
            x.drop(r);
            due("kind(" + r + ") when dropped", x.kind(r), 0);
            due("kind of the next root", x.kind((r + 1) % 8), r == 7 ? 0 : 1);
        }
    }

    private static void sizes() {
        sentence("Its SIZE is 2 words for a number, 3 for a pair, 4 for a thunk and for a link.");
        LazyHeap x = new LazyHeap();
        due("a number", x.number(0, 1), 2);
        due("and a pair", x.pair(1, 0, 0), 5);
        due("and a thunk", x.thunk(2, SAME, 0, 0), 9);
        x.force(2);
        due("and a link, that was the thunk", x.count(YOUNG_WORDS), 9);
        x.drop(1);
        x.thunk(2, SAME, 0, 0);
        due("an old number and an old thunk", x.collect(false), 6);
        x.pair(1, 0, 0);
        due("and an old pair", x.collect(false), 9);
        x.force(2);
        due("an old link, that was the thunk", x.count(OLD_WORDS), 9);
        due("and after a minor collection", x.collect(false), 9);
        due("a number and a pair are live", x.collect(true), 5);
    }

    private static void linksOfLinks() {
        sentence("a LINK (to an object, which is never itself a link)");
        LazyHeap x = ofNumbers(5);
        x.thunk(1, SAME, 0, 0);
        x.thunk(2, SAME, 1, 1);
        x.thunk(3, SAME, 2, 2);
        x.thunk(4, SAME, 3, 3);
        x.force(1);
        due("the next one still is a thunk", x.kind(2), 3);
        x.force(2);
        x.force(4);
        due("links", x.count(LINKED), 4);
        for (int r = 1; r <= 4; r++) {
            due("root " + r + " holds the number", x.same(r, 0), true);
        }
        due("nothing but the number is live", x.collect(true), 2);
    }

    // ---- links ----

    private static final String LINK_IS_MEANT =
            "Where an object is told to be held, and is a link, that to which it links is meant";

    /** The number 5 in root 0, and a link to it in roots 1 and 2, though force was told of root 1. */
    private static LazyHeap withLinks() {
        LazyHeap x = ofNumbers(5);
        x.thunk(1, SAME, 0, 0);
        x.copy(2, 1);
        x.force(1);
        return x;
    }

    private static void linksHeldByRoots() {
        sentence(LINK_IS_MEANT);
        LazyHeap x = withLinks();
        due("kind", x.kind(2), 1);
        due("value", x.value(2), 5);
        due("same as the number", x.same(2, 0), true);
        x.copy(3, 2);
        due("a copy is the same", x.same(3, 0), true);
        due("force", x.force(2), 1);
        dueThrowUnchanged(x, "tie of a link", NO_ARGUMENT, () -> x.tie(2, 0));
        dueThrowUnchanged(x, "part of a link to a number", NO_ARGUMENT, () -> x.part(3, 2, true));
        x.pair(4, 0, 0);
        x.thunk(5, SAME, 4, 4);
        x.copy(6, 5);
        x.force(5);
        due("kind of a link to a pair", x.kind(6), 2);
        x.part(7, 6, true);
        due("part of a link to a pair", x.same(7, 0), true);
        dueThrowUnchanged(x, "value of a link to a pair", NO_ARGUMENT, () -> x.value(6));
    }

    private static void linksHeldByEachRoot() {
        sentence(LINK_IS_MEANT);
        for (int r = 0; r < 8; r++) {
            LazyHeap x = ofNumbers(0, 1, 2, 3, 4, 5, 6, 7);
            int other = (r + 1) % 8;
            x.thunk(r, SUM, other, other);
            x.copy(other, r);
            x.force(other);
            due("kind(" + r + ")", x.kind(r), 1);
            due("value(" + r + ")", x.value(r), 2 * other);
        }
    }

    private static void linksHeldByPairs() {
        sentence(LINK_IS_MEANT);
        LazyHeap x = ofNumbers(5);
        x.thunk(1, SAME, 0, 0);
        x.pair(2, 1, 0);
        x.pair(3, 0, 1);
        x.copy(4, 1);
        x.force(1);
        x.part(5, 2, false);
        due("first of a pair that was made before", x.same(5, 0), true);
        x.part(5, 3, true);
        due("second of a pair that was made before", x.same(5, 0), true);
        x.pair(2, 4, 4);
        x.part(5, 2, false);
        x.part(6, 2, true);
        due("first of a pair that is made of links", x.same(5, 0), true);
        due("second of a pair that is made of links", x.same(6, 0), true);
    }

    private static void linksHeldByThunks() {
        sentence(LINK_IS_MEANT);
        LazyHeap x = ofNumbers(5, 3);
        x.thunk(2, SAME, 0, 0);
        x.copy(3, 2);
        x.thunk(4, DIFFERENCE, 2, 1);
        x.thunk(5, DIFFERENCE, 1, 2);
        x.thunk(6, DIFFERENCE, 1, 1);
        x.force(2);
        x.tie(6, 3);
        x.thunk(7, PRODUCT, 3, 3);
        due("a of a thunk that was made before", x.force(4) * 100 + x.value(4), 102);
        due("b of a thunk that was made before", x.force(5) * 100 + x.value(5), 98);
        due("b that was tied", x.force(6) * 100 + x.value(6), 98);
        due("a and b of a thunk that is made of links", x.force(7) * 100 + x.value(7), 125);
    }

    private static void linksAreNotShownByAge() {
        sentence("(so nothing that a call answers shows links)");
        LazyHeap x = ofNumbers(5);
        x.thunk(1, SUM, 0, 0);
        x.copy(2, 1);
        x.collect(false);
        x.force(1);
        due("kind of an old link to a young number", x.kind(2), 1);
        x.thunk(3, SAME, 0, 0);
        x.copy(4, 3);
        x.force(3);
        due("kind of a young link to an old number", x.kind(4), 5);
        x.thunk(5, SAME, 4, 4);
        x.copy(6, 5);
        due("force of a thunk of a link", x.force(5), 1);
        due("is the number", x.same(6, 0), true);
    }

    // ---- operations ----

    /** What forcing a thunk of the operation on two numbers gives. */
    private static int reckoned(int operation, int a, int b) {
        LazyHeap x = ofNumbers(a, b);
        x.thunk(2, operation, 0, 1);
        due("force of operation " + operation, x.force(2), 1);
        return x.value(2);
    }

    private static void sums() {
        sentence("0 SUM (.. of a and b, as ints go round)");
        due("6 + 7", reckoned(SUM, 6, 7), 13);
        due("MAX + 1", reckoned(SUM, MAX, 1), MIN);
        due("MIN + -1", reckoned(SUM, MIN, -1), MAX);
        due("MAX + MAX", reckoned(SUM, MAX, MAX), -2);
    }

    private static void differences() {
        sentence("1 DIFFERENCE (.. of a and b, as ints go round)");
        due("6 - 7", reckoned(DIFFERENCE, 6, 7), -1);
        due("7 - 6", reckoned(DIFFERENCE, 7, 6), 1);
        due("MIN - 1", reckoned(DIFFERENCE, MIN, 1), MAX);
        due("MAX - -1", reckoned(DIFFERENCE, MAX, -1), MIN);
        due("0 - MIN", reckoned(DIFFERENCE, 0, MIN), MIN);
    }

    private static void products() {
        sentence("2 PRODUCT (of a and b, as ints go round)");
        due("6 * -7", reckoned(PRODUCT, 6, -7), -42);
        due("65536 * 65536", reckoned(PRODUCT, 65536, 65536), 0);
        due("65536 * 32768", reckoned(PRODUCT, 65536, 32768), MIN);
        due("MIN * -1", reckoned(PRODUCT, MIN, -1), MIN);
        due("MAX * MAX", reckoned(PRODUCT, MAX, MAX), 1);
    }

    private static void quotients() {
        sentence("3 QUOTIENT (of a by b, towards 0)");
        due("7 / 2", reckoned(QUOTIENT, 7, 2), 3);
        due("-7 / 2", reckoned(QUOTIENT, -7, 2), -3);
        due("7 / -2", reckoned(QUOTIENT, 7, -2), -3);
        due("-7 / -2", reckoned(QUOTIENT, -7, -2), 3);
        due("1 / 2", reckoned(QUOTIENT, 1, 2), 0);
        due("-1 / 2", reckoned(QUOTIENT, -1, 2), 0);
        due("0 / 5", reckoned(QUOTIENT, 0, 5), 0);
        due("MIN / -1", reckoned(QUOTIENT, MIN, -1), MIN);
        due("MIN / MIN", reckoned(QUOTIENT, MIN, MIN), 1);
    }

    /** 1 in root 0, 0 in root 1, and a thunk that fails by ZERO in root 2. */
    private static LazyHeap withFailing() {
        LazyHeap x = ofNumbers(1, 0);
        x.thunk(2, QUOTIENT, 0, 1);
        return x;
    }

    private static void partsOfPairs() {
        sentence("4 FIRST, 5 SECOND (of a)");
        LazyHeap x = withFailing();
        x.pair(3, 0, 2);
        x.thunk(4, FIRST, 3, 2);
        due("first, when all else would fail", x.force(4), 1);
        due("is the first", x.same(4, 0), true);
        x.pair(3, 2, 1);
        x.thunk(4, SECOND, 3, 2);
        due("second, when all else would fail", x.force(4), 1);
        due("is the second", x.same(4, 1), true);
        due("only they became links", x.count(LINKED), 2);
    }

    private static void choices() {
        sentence("6 CHOICE (the first of b if a is not 0, else its second)");
        for (int a : new int[] {1, -1, 2, MIN, MAX}) {
            dueChoice(a, true);
        }
        dueChoice(0, false);
    }

    private static void dueChoice(int a, boolean first) {
        LazyHeap x = withFailing();
        x.number(3, a);
        x.pair(4, first ? 0 : 2, first ? 2 : 0);
        x.thunk(5, CHOICE, 3, 4);
        due("choice by " + a + ", when the other one would fail", x.force(5), 1);
        due("is the right one", x.same(5, 0), true);
        x.pair(4, first ? 2 : 0, first ? 0 : 2);
        x.thunk(5, CHOICE, 3, 4);
        dueThrowUnchanged(x, "choice by " + a + " of what fails", NO_ARITHMETIC, () -> x.force(5));
    }

    private static void rescues() {
        sentence("7 RESCUE (a, or b if that fails)");
        LazyHeap x = withFailing();
        x.thunk(3, RESCUE, 0, 2);
        due("a, when b would fail", x.force(3), 1);
        due("is a", x.same(3, 0), true);
        x.thunk(4, SAME, 1, 1);
        x.thunk(3, RESCUE, 0, 4);
        x.force(3);
        due("b is not evaluated", x.kind(4), 3);
        x.thunk(3, RESCUE, 2, 4);
        due("b, when a fails", x.force(3), 1);
        due("is b", x.same(3, 1), true);
        due("a is a thunk as before", x.kind(2), 3);
    }

    private static void sames() {
        sentence("8 SAME (a)");
        LazyHeap x = withFailing();
        x.thunk(3, SAME, 0, 2);
        due("same of a number, when b would fail", x.force(3), 1);
        due("is the number", x.same(3, 0), true);
        x.pair(4, 2, 2);
        x.thunk(3, SAME, 4, 2);
        due("same of a pair", x.force(3), 2);
        due("is the pair", x.same(3, 4), true);
        due("nothing else was evaluated", x.count(LINKED), 2);
    }

    // ---- to evaluate ----

    private static void numbersAndPairs() {
        sentence("a number or a pair is its own VALUE");
        LazyHeap x = withFailing();
        x.pair(3, 2, 2);
        String before = shown(x);
        due("force of a number", x.force(0), 1);
        due("force of a pair, whose parts would fail", x.force(3), 2);
        due("what is shown then", shown(x), before);
    }

    private static void sharedThunks() {
        sentence("A thunk is RUNNING from now on, until it has a value or fails");
        LazyHeap x = ofNumbers(2, 3);
        x.thunk(2, SUM, 0, 1);
        x.thunk(3, PRODUCT, 2, 2);
        x.thunk(4, DIFFERENCE, 3, 2);
        due("one thunk wanted three times", x.force(4), 1);
        due("value", x.value(4), 20);
        dueCounts(x, "each is done once", 22, 0, 0, 0, 0, 0, 3);
        due("one that was wanted before", x.force(3), 1);
        dueCounts(x, "nothing is done again", 22, 0, 0, 0, 0, 0, 3);
        LazyHeap y = withFailing();
        y.thunk(3, RESCUE, 2, 2);
        dueThrowUnchanged(y, "one that failed, wanted again", NO_ARITHMETIC, () -> y.force(3));
    }

    private static void aBeforeB() {
        sentence("0 .. 3: a is evaluated, and then b.");
        for (int operation = SUM; operation <= QUOTIENT; operation++) {
            LazyHeap x = withFailing();
            x.thunk(3, FIRST, 0, 0);
            x.thunk(4, SAME, 0, 0);
            dueFailing(x, operation, 2, 3, NO_ARITHMETIC);
            dueFailing(x, operation, 3, 2, NO_ARGUMENT);
            dueFailing(x, operation, 2, 4, NO_ARITHMETIC);
            x.drop(5);
            x.thunk(6, operation, 4, 2);
            dueThrow(operation + " with a b that fails", NO_ARITHMETIC, () -> x.force(6));
            due("a has its value by then", x.same(4, 0), true);
            due("one link", x.count(LINKED), 1);
        }
    }

    /** The thunk in root 5 fails, and nothing that it wants gets a value. */
    private static void dueFailing(LazyHeap x, int operation, int a, int b, String want) {
        x.thunk(5, operation, a, b);
        dueThrowUnchanged(x, operation + " of roots " + a + " and " + b, want, () -> x.force(5));
    }

    private static void pairsAmongNumbers() {
        sentence("If one of the values is a pair, it fails by KIND (when both are evaluated).");
        for (int operation = SUM; operation <= QUOTIENT; operation++) {
            LazyHeap x = withFailing();
            x.pair(3, 0, 0);
            dueFailing(x, operation, 3, 0, NO_ARGUMENT);
            dueFailing(x, operation, 0, 3, NO_ARGUMENT);
            dueFailing(x, operation, 3, 3, NO_ARGUMENT);
            dueFailing(x, operation, 3, 1, NO_ARGUMENT);
            dueFailing(x, operation, 3, 2, NO_ARITHMETIC);
            x.thunk(4, SAME, 0, 0);
            x.thunk(5, operation, 3, 4);
            dueThrow(operation + " of a pair and a thunk", NO_ARGUMENT, () -> x.force(5));
            due("b has its value by then", x.same(4, 0), true);
        }
    }

    private static void quotientsByZero() {
        sentence("A quotient by 0 fails by ZERO.");
        for (int a : new int[] {6, 0, -1, MIN}) {
            LazyHeap x = ofNumbers(a, 0);
            dueFailing(x, QUOTIENT, 0, 1, NO_ARITHMETIC);
        }
        LazyHeap x = ofNumbers(6, 0);
        x.thunk(2, SAME, 1, 1);
        x.thunk(3, QUOTIENT, 0, 2);
        dueThrow("quotient by a thunk that gives 0", NO_ARITHMETIC, () -> x.force(3));
        due("product with 0", reckoned(PRODUCT, 6, 0), 0);
    }

    private static void newNumbers() {
        sentence("Otherwise a new number is made, which is the value.");
        LazyHeap x = ofNumbers(5, 0);
        x.thunk(2, SUM, 0, 1);
        due("words before", x.count(YOUNG_WORDS), 8);
        x.force(2);
        due("words then", x.count(YOUNG_WORDS), 10);
        due("value", x.value(2), 5);
        due("is another object than a", x.same(2, 0), false);
        x.thunk(3, SUM, 0, 1);
        x.force(3);
        due("is another object than one made before", x.same(2, 3), false);
    }

    private static void partsOfNumbers() {
        sentence("4, 5: a is evaluated; if that gives a number, it fails by KIND");
        for (int operation = FIRST; operation <= SECOND; operation++) {
            LazyHeap x = ofNumbers(1, 0);
            dueFailing(x, operation, 0, 0, NO_ARGUMENT);
            dueFailing(x, operation, 1, 0, NO_ARGUMENT);
            x.pair(2, 0, 1);
            dueFailing(x, operation, 0, 2, NO_ARGUMENT);
            x.thunk(3, SAME, 0, 0);
            x.thunk(4, operation, 3, 0);
            dueThrow(operation + " of a thunk that gives a number", NO_ARGUMENT, () -> x.force(4));
            due("a has its value by then", x.same(3, 0), true);
        }
    }

    private static void partsAreEvaluated() {
        sentence("otherwise the first or second of the pair is evaluated: its value is the value");
        LazyHeap x = withFailing();
        x.thunk(3, SUM, 0, 0);
        x.pair(4, 3, 2);
        x.thunk(5, SAME, 4, 4);
        x.thunk(6, FIRST, 5, 2);
        due("first, a thunk", x.force(6), 1);
        due("value", x.value(6), 2);
        due("the pair holds the value too", x.same(6, 3), true);
        x.thunk(6, SECOND, 4, 4);
        dueThrowUnchanged(x, "second, which fails", NO_ARITHMETIC, () -> x.force(6));
        x.pair(6, 4, 4);
        x.thunk(6, SECOND, 6, 6);
        due("second, a pair", x.force(6), 2);
        due("is the pair", x.same(6, 4), true);
    }

    private static void choicesThatFail() {
        sentence("6: a is evaluated, and then b; it fails by KIND unless the one gives a number and the other one a pair");
        LazyHeap x = withFailing();
        x.pair(3, 0, 1);
        dueFailing(x, CHOICE, 3, 3, NO_ARGUMENT);
        dueFailing(x, CHOICE, 0, 0, NO_ARGUMENT);
        dueFailing(x, CHOICE, 1, 1, NO_ARGUMENT);
        dueFailing(x, CHOICE, 3, 0, NO_ARGUMENT);
        dueFailing(x, CHOICE, 3, 2, NO_ARITHMETIC);
        LazyHeap y = withFailing();
        y.thunk(3, FIRST, 0, 0);
        dueFailing(y, CHOICE, 2, 3, NO_ARITHMETIC);
        dueFailing(y, CHOICE, 3, 2, NO_ARGUMENT);
        y.thunk(4, SAME, 0, 0);
        dueFailing(y, CHOICE, 2, 4, NO_ARITHMETIC);
        y.pair(6, 0, 0);
        y.thunk(5, CHOICE, 6, 4);
        dueThrow("choice by a pair", NO_ARGUMENT, () -> y.force(5));
        due("b has its value by then", y.same(4, 0), true);
    }

    private static void chosenAreEvaluated() {
        sentence("then the first or second one is evaluated: its value is the value");
        LazyHeap x = ofNumbers(1, 0);
        x.thunk(2, SUM, 0, 0);
        x.thunk(3, PRODUCT, 0, 1);
        x.pair(4, 2, 3);
        x.thunk(5, CHOICE, 0, 4);
        x.thunk(6, CHOICE, 1, 4);
        due("the first, a thunk", x.force(5) * 10 + x.value(5), 12);
        due("is the first", x.same(5, 2), true);
        due("the second still is a thunk", x.kind(3), 3);
        due("the second, a thunk", x.force(6) * 10 + x.value(6), 10);
        due("is the second", x.same(6, 3), true);
        x.pair(5, 4, 0);
        x.thunk(5, CHOICE, 0, 5);
        due("the first, a pair", x.force(5), 2);
        due("is the pair", x.same(5, 4), true);
    }

    private static void rescuesFromZeroAndKind() {
        sentence("7: a is evaluated: its value is the value; if that fails by ZERO or KIND, b is evaluated, and its value is the value.");
        for (int by = 0; by < 2; by++) {
            LazyHeap x = failing(FAILURES[by]);
            x.thunk(3, SUM, 0, 0);
            x.thunk(4, RESCUE, 2, 3);
            due("rescue by a thunk", x.force(4), 1);
            due("value", x.value(4), 2);
            due("is the value of b", x.same(4, 3), true);
            x.thunk(3, SAME, 2, 2);
            x.pair(5, 0, 0);
            x.thunk(4, RESCUE, 3, 5);
            due("rescue from what fails likewise", x.force(4), 2);
            due("is b", x.same(4, 5), true);
            due("the ones that failed are thunks", x.kind(2) * 10 + x.kind(3), 33);
        }
        LazyHeap x = failing(NO_STATE);
        x.thunk(3, RESCUE, 2, 0);
        dueThrowUnchanged(x, "no rescue from LOOP", NO_STATE, () -> x.force(3));
    }

    private static void sameOfThunks() {
        sentence("8: a is evaluated: its value is the value.");
        LazyHeap x = withFailing();
        x.thunk(3, SUM, 0, 0);
        x.thunk(4, SAME, 3, 2);
        due("same of a thunk that gives a number", x.force(4) * 10 + x.value(4), 12);
        due("is its value", x.same(4, 3), true);
        x.pair(5, 2, 2);
        x.thunk(6, SAME, 5, 2);
        x.thunk(7, SAME, 6, 2);
        due("same of a thunk that gives a pair", x.force(7), 2);
        due("is the pair", x.same(7, 5), true);
        dueFailing(x, SAME, 2, 0, NO_ARITHMETIC);
    }

    private static void becomingLinks() {
        sentence("A thunk that gets a value becomes a link to it.");
        for (int operation = SUM; operation <= SAME; operation++) {
            LazyHeap x = ofNumbers(1);
            x.pair(1, 0, 0);
            int a = operation == FIRST || operation == SECOND ? 1 : 0;
            x.thunk(2, operation, a, operation == CHOICE ? 1 : 0);
            x.copy(3, 2);
            due("force of " + operation, x.force(2), 1);
            due("links", x.count(LINKED), 1);
            due("another root holds the value too", x.same(3, 2), true);
            due("which is 1 or, of a sum, 2 or, of a difference, 0", x.value(3),
                    operation == SUM ? 2 : operation == DIFFERENCE ? 0 : 1);
        }
    }

    // ---- to fail ----

    /** 1 in root 0, 0 in root 1, and a thunk that fails so in root 2. */
    private static LazyHeap failing(String by) {
        LazyHeap x = withFailing();
        if (by.equals(NO_ARGUMENT)) {
            x.thunk(2, FIRST, 0, 0);
        } else if (by.equals(NO_STATE)) {
            x.thunk(2, SUM, 0, 0);
            x.tie(2, 2);
        }
        return x;
    }

    private static void failsLikewise() {
        sentence("If evaluating anything that a thunk needs fails (and it does not rescue), it fails likewise.");
        for (String by : FAILURES) {
            for (int operation = SUM; operation <= SAME; operation++) {
                if (operation != RESCUE) {
                    dueFailing(failing(by), operation, 2, 0, by);
                }
                if (operation <= QUOTIENT || operation == CHOICE) {
                    dueFailing(failing(by), operation, 0, 2, by);
                }
            }
            dueFailingOfPairs(by);
            LazyHeap x = failing(by);
            x.thunk(3, QUOTIENT, 0, 1);
            dueFailing(x, RESCUE, 3, 2, by);
            x.thunk(3, FIRST, 0, 0);
            dueFailing(x, RESCUE, 3, 2, by);
        }
    }

    private static void dueFailingOfPairs(String by) {
        LazyHeap x = failing(by);
        x.pair(3, 2, 0);
        x.pair(4, 0, 2);
        dueFailing(x, FIRST, 3, 0, by);
        dueFailing(x, SECOND, 4, 0, by);
        dueFailing(x, CHOICE, 0, 3, by);
        dueFailing(x, CHOICE, 1, 4, by);
    }

    private static void failedThunks() {
        sentence("A thunk that failed is not running any more, and is a thunk as before.");
        for (String by : FAILURES) {
            LazyHeap x = failing(by);
            due("kind before", x.kind(2), 3);
            dueThrowUnchanged(x, "force", by, () -> x.force(2));
            dueThrowUnchanged(x, "force again", by, () -> x.force(2));
        }
        LazyHeap x = ofNumbers(7, 0, 2);
        x.thunk(3, QUOTIENT, 0, 1);
        x.thunk(4, SAME, 3, 3);
        dueThrow("force", NO_ARITHMETIC, () -> x.force(4));
        x.tie(3, 2);
        due("force when tied to something better", x.force(4), 1);
        due("value", x.value(4), 3);
        LazyHeap y = ofNumbers(7);
        y.thunk(1, SUM, 0, 0);
        y.tie(1, 1);
        dueThrow("force", NO_STATE, () -> y.force(1));
        y.tie(1, 0);
        due("force when it does not hold itself any more", y.force(1), 1);
        due("value", y.value(1), 14);
    }

    private static void loops() {
        sentence("To evaluate a thunk that is running fails by LOOP");
        for (int operation = SUM; operation <= SAME; operation++) {
            LazyHeap x = withFailing();
            x.thunk(3, SUM, 0, 0);
            x.thunk(4, operation, 3, 0);
            x.tie(3, 4);
            dueThrowUnchanged(x, operation + ", a of which needs it", NO_STATE, () -> x.force(4));
            x.thunk(4, operation, operation == RESCUE ? 2 : 0, 0);
            x.tie(4, 4);
            if (operation <= QUOTIENT || operation == CHOICE || operation == RESCUE) {
                dueThrowUnchanged(x, operation + ", b of which it is", NO_STATE, () -> x.force(4));
            }
        }
        loopsThroughPairs();
    }

    private static void loopsThroughPairs() {
        LazyHeap x = ofNumbers(1, 0);
        x.thunk(2, SUM, 0, 0);
        x.pair(3, 2, 0);
        x.thunk(4, FIRST, 3, 0);
        x.tie(2, 4);
        dueThrowUnchanged(x, "first, which needs it", NO_STATE, () -> x.force(4));
        x.pair(3, 0, 2);
        x.thunk(4, SECOND, 3, 0);
        x.tie(2, 4);
        dueThrowUnchanged(x, "second, which needs it", NO_STATE, () -> x.force(4));
        x.thunk(4, CHOICE, 1, 3);
        x.tie(2, 4);
        dueThrowUnchanged(x, "choice of what needs it", NO_STATE, () -> x.force(4));
        LazyHeap y = ofNumbers(1);
        y.thunk(1, CHOICE, 0, 0);
        y.pair(2, 0, 1);
        y.tie(1, 2);
        due("a thunk in a pair that it does not choose", y.force(1), 1);
        due("is the one it chooses", y.same(1, 0), true);
    }

    // ---- 12 are running ----

    private static final String MOST_RUNNING = "so it does to evaluate a thunk when 12 are running";

    private static void mostRunning() {
        sentence(MOST_RUNNING);
        LazyHeap twelve = ofNumbers(3);
        chainThunks(twelve, 1, 0, 12);
        due("the 12th over a number", twelve.force(1), 1);
        due("links", twelve.count(LINKED), 12);
        LazyHeap thirteen = ofNumbers(3);
        chainThunks(thirteen, 1, 0, 13);
        dueThrowUnchanged(thirteen, "the 13th", NO_STATE, () -> thirteen.force(1));
        dueThrowUnchanged(thirteen, "the 13th again", NO_STATE, () -> thirteen.force(1));
        LazyHeap pair = ofNumbers(3);
        pair.pair(2, 0, 0);
        chainThunks(pair, 1, 2, 12);
        due("the 12th over a pair", pair.force(1), 2);
        LazyHeap link = ofNumbers(3);
        link.thunk(2, SAME, 0, 0);
        chainThunks(link, 1, 2, 12);
        dueThrowUnchanged(link, "the 12th over a thunk", NO_STATE, () -> link.force(1));
        link.force(2);
        due("the 12th over a link", link.force(1), 1);
        due("links", link.count(LINKED), 13);
    }

    private static void manyThatDoNotRunAtOnce() {
        sentence(MOST_RUNNING);
        LazyHeap x = ofNumbers(3);
        chainThunks(x, 1, 0, 6);
        chainThunks(x, 2, 0, 8);
        x.thunk(3, SUM, 1, 2);
        due("15 thunks, but only 9 at once", x.force(3), 1);
        due("value", x.value(3), 6);
        due("links", x.count(LINKED), 15);
        LazyHeap y = withFailing();
        y.thunk(3, RESCUE, 2, 0);
        chainThunks(y, 4, 3, 10);
        due("12 running, of which one fails", y.force(4), 1);
        due("links", y.count(LINKED), 11);
        LazyHeap z = withFailing();
        chainThunks(z, 3, 0, 11);
        z.thunk(4, RESCUE, 2, 3);
        due("12 running, after one that failed", z.force(4), 1);
        due("links", z.count(LINKED), 12);
    }

    /** Whether the thunk is itself the 12th (over 11) or 13th (over 12) in each place where it may be. */
    private static void mostRunningInEachPlace() {
        sentence(MOST_RUNNING);
        for (int operation = SUM; operation <= SAME; operation++) {
            boolean ofPairs = operation == FIRST || operation == SECOND;
            dueDepth(operation + " of a", ofPairs, operation, 1, operation == CHOICE ? 6 : 0);
            if (operation <= QUOTIENT || operation == CHOICE) {
                dueDepth(operation + " of b", operation == CHOICE, operation, 0, 1);
            }
        }
        dueDepth("first", false, FIRST, 5, 0);
        dueDepth("second", false, SECOND, 5, 0);
        dueDepth("choice of the first", false, CHOICE, 0, 5);
        dueDepth("rescue by b", false, RESCUE, 4, 1);
    }

    /** Root 1 holds the chain, 4 what fails, 5 a pair of chains, and 6 a pair. */
    private static void dueDepth(String what, boolean ofPairs, int operation, int a, int b) {
        for (int length = 11; length <= 12; length++) {
            LazyHeap x = ofNumbers(1);
            x.pair(6, 0, 0);
            chainThunks(x, 1, ofPairs ? 6 : 0, length);
            x.thunk(4, FIRST, 0, 0);
            x.pair(5, 1, 1);
            x.thunk(2, operation, a, b);
            if (length == 11) {
                due(what + " over 11", x.force(2), 1);
            } else {
                dueThrowUnchanged(x, what + " over 12", NO_STATE, () -> x.force(2));
            }
        }
    }

    // ---- room ----

    private static void failsByRoom() {
        sentence("To make an object for which there is no room fails by ROOM.");
        for (int operation = SUM; operation <= SAME; operation++) {
            dueNoRoom(operation, 2, 0);
            if (operation <= QUOTIENT || operation == CHOICE) {
                dueNoRoom(operation, 0, 2);
            }
        }
        dueNoRoom(FIRST, 4, 0);
        dueNoRoom(SECOND, 4, 0);
        dueNoRoom(CHOICE, 0, 4);
        dueNoRoom(RESCUE, 5, 2);
    }

    /** Root 2 holds a sum for which there will be no room, 4 a pair of it, and 5 what fails by KIND. */
    private static void dueNoRoom(int operation, int a, int b) {
        LazyHeap x = ofNumbers(5);
        x.thunk(2, SUM, 0, 0);
        x.pair(4, 2, 2);
        x.thunk(5, FIRST, 0, 0);
        x.thunk(3, operation, a, b);
        crowd(x);
        String what = operation + " of roots " + a + " and " + b + " without room";
        dueThrowUnchanged(x, what, NO_ROOM, () -> x.force(3));
        dueThrowUnchanged(x, what + " again", NO_ROOM, () -> x.force(3));
        x.drop(1);
        due("the sum, when there is room", x.force(2), 1);
        due("value", x.value(2), 10);
    }

    private static void needsNoRoom() {
        sentence("To make an object for which there is no room fails by ROOM.");
        LazyHeap x = ofNumbers(5, 0);
        x.pair(2, 0, 0);
        x.thunk(3, FIRST, 2, 2);
        x.thunk(4, QUOTIENT, 0, 1);
        x.thunk(5, SUM, 0, 2);
        crowd(x);
        due("what makes nothing needs no room", x.force(3), 1);
        due("is the first", x.same(3, 0), true);
        dueThrowUnchanged(x, "a quotient by 0", NO_ARITHMETIC, () -> x.force(4));
        dueThrowUnchanged(x, "a sum with a pair", NO_ARGUMENT, () -> x.force(5));
    }

    public static void main(String[] args) {
        roots();
        sizes();
        linksOfLinks();
        linksHeldByRoots();
        linksHeldByEachRoot();
        linksHeldByPairs();
        linksHeldByThunks();
        linksAreNotShownByAge();
        sums();
        differences();
        products();
        quotients();
        partsOfPairs();
        choices();
        rescues();
        sames();
        numbersAndPairs();
        sharedThunks();
        aBeforeB();
        pairsAmongNumbers();
        quotientsByZero();
        newNumbers();
        partsOfNumbers();
        partsAreEvaluated();
        choicesThatFail();
        chosenAreEvaluated();
        rescuesFromZeroAndKind();
        sameOfThunks();
        becomingLinks();
        failsLikewise();
        failedThunks();
        loops();
        mostRunning();
        manyThatDoNotRunAtOnce();
        mostRunningInEachPlace();
        failsByRoom();
        needsNoRoom();
        end();
    }
}
