import java.lang.reflect.Constructor;
import java.lang.reflect.Field;
import java.lang.reflect.Method;
import java.lang.reflect.Modifier;
import java.util.Arrays;
import java.util.TreeSet;

/** For each promise of the document: ordinary inputs, the edges it names, and wrong inputs. */
public final class PromiseTests {
    private static final int SUM = 0;
    private static final int DIFFERENCE = 1;
    private static final int PRODUCT = 2;
    private static final int QUOTIENT = 3;
    private static final int FIRST = 4;
    private static final int SECOND = 5;
    private static final int CHOICE = 6;
    private static final int RESCUE = 7;
    private static final int SAME = 8;

    private static final int YOUNG_WORDS = 0;
    private static final int OLD_WORDS = 1;
    private static final int FULL = 3;
    private static final int REMEMBERED = 5;
    private static final int LINKED = 6;

    private static final String NO_INDEX = "IndexOutOfBoundsException";
    private static final String NO_ARGUMENT = "IllegalArgumentException";
    private static final String NO_STATE = "IllegalStateException";
    private static final String NO_ARITHMETIC = "ArithmeticException";
    private static final String NO_ROOM = "UnsupportedOperationException";

    private static final int[] WRONG_ROOTS = {-1, 8, 9, Integer.MIN_VALUE, Integer.MAX_VALUE};

    private static int checks = 0;
    private static int wrong = 0;
    private static String promise = "";

    private interface Call {
        void run();
    }

    private static void due(String what, long got, long want) {
        checks++;
        if (got != want) {
            wrong++;
            System.out.println(promise + ": " + what + " answered " + got + ", due is " + want);
        }
    }

    private static void due(String what, boolean got, boolean want) {
        due(what, got ? 1 : 0, want ? 1 : 0);
    }

    private static void dueThrow(String what, String want, Call call) {
        checks++;
        String got = "nothing";
        try {
            call.run();
        } catch (RuntimeException e) {
            got = e.getClass().getSimpleName();
        }
        if (!got.equals(want)) {
            wrong++;
            System.out.println(promise + ": " + what + " throws " + got + ", due is " + want);
        }
    }

    /** Everything that the answers show of an object without changing it. */
    private static String shown(LazyHeap x) {
        StringBuilder text = new StringBuilder();
        for (int which = 0; which <= 6; which++) {
            text.append(x.count(which)).append(' ');
        }
        for (int r = 0; r < 8; r++) {
            int kind = x.kind(r);
            text.append(kind).append(kind % 4 == 1 && kind != 0 ? "=" + x.value(r) : "").append(' ');
            for (int s = 0; s < r; s++) {
                text.append(x.same(r, s) ? '1' : '0');
            }
        }
        return text.toString();
    }

    private static void dueThrowUnchanged(LazyHeap x, String what, String want, Call call) {
        String before = shown(x);
        dueThrow(what, want, call);
        due(what + " leaves all as it was", before.equals(shown(x)), true);
    }

    private static void dueCounts(LazyHeap x, String what, int... counts) {
        for (int which = 0; which < counts.length; which++) {
            due(what + ", count(" + which + ")", x.count(which), counts[which]);
        }
    }

    private static LazyHeap ofNumbers(int... values) {
        LazyHeap x = new LazyHeap();
        for (int r = 0; r < values.length; r++) {
            x.number(r, values[r]);
        }
        return x;
    }

    /** What forcing a thunk of the operation on two numbers gives. */
    private static int reckoned(int operation, int a, int b) {
        LazyHeap x = ofNumbers(a, b);
        x.thunk(2, operation, 0, 1);
        due("force of " + operation, x.force(2), 1);
        return x.value(2);
    }

    /** Pairs in root 1 that hold one another, so that all stay live: 77 words old, 39 young. */
    private static LazyHeap crowded() {
        LazyHeap x = ofNumbers(5);
        x.pair(1, 0, 0);
        for (int made = 0; made < 37; made++) {
            x.pair(1, 1, 0);
        }
        return x;
    }

    private static LazyHeap chainOfThunks(int length) {
        LazyHeap x = ofNumbers(3);
        x.thunk(1, SAME, 0, 0);
        for (int made = 1; made < length; made++) {
            x.thunk(1, SAME, 1, 1);
        }
        return x;
    }

    // ---- the face ----

    private static void face() {
        promise = "the face";
        int modifiers = LazyHeap.class.getModifiers();
        due("public and final", Modifier.isPublic(modifiers) && Modifier.isFinal(modifiers), true);
        TreeSet<String> got = new TreeSet<>();
        for (Method m : LazyHeap.class.getDeclaredMethods()) {
            if (!Modifier.isPrivate(m.getModifiers())) {
                got.add(m.getReturnType() + " " + m.getName() + names(m.getParameterTypes())
                        + names(m.getExceptionTypes()));
            }
        }
        for (Constructor<?> c : LazyHeap.class.getDeclaredConstructors()) {
            got.add("new " + names(c.getParameterTypes()));
        }
        for (Field f : LazyHeap.class.getDeclaredFields()) {
            due("private field " + f.getName(), Modifier.isPrivate(f.getModifiers()), true);
        }
        String i = NO_INDEX;
        String a = NO_ARGUMENT;
        String u = NO_ROOM;
        TreeSet<String> want = new TreeSet<>(Arrays.asList(
                "new ()",
                "int number(int,int)(" + i + "," + u + ")",
                "int pair(int,int,int)(" + i + "," + u + ")",
                "int thunk(int,int,int,int)(" + i + "," + a + "," + u + ")",
                "void tie(int,int)(" + i + "," + a + ")",
                "int force(int)(" + i + "," + NO_ARITHMETIC + "," + a + "," + NO_STATE + "," + u + ")",
                "void part(int,int,boolean)(" + i + "," + a + ")",
                "void copy(int,int)(" + i + ")",
                "void drop(int)(" + i + ")",
                "int kind(int)(" + i + ")",
                "int value(int)(" + i + "," + a + ")",
                "boolean same(int,int)(" + i + ")",
                "int collect(boolean)(" + u + ")",
                "int count(int)(" + a + ")"));
        if (!got.equals(want)) {
            wrong++;
            System.out.println("the face is " + got + ", due is " + want);
        }
    }

    private static String names(Class<?>[] types) {
        StringBuilder text = new StringBuilder("(");
        for (int i = 0; i < types.length; i++) {
            text.append(i == 0 ? "" : ",").append(types[i].getSimpleName());
        }
        return text.append(")").toString();
    }

    // ---- promise 1 ----

    private static void newObject() {
        promise = "promise 1";
        LazyHeap x = new LazyHeap();
        for (int r = 0; r < 8; r++) {
            due("kind of root " + r, x.kind(r), 0);
        }
        dueCounts(x, "new", 0, 0, 0, 0, 0, 0, 0);
        ofNumbers(1, 2).collect(false);
        dueCounts(x, "new, beside another one", 0, 0, 0, 0, 0, 0, 0);
    }

    // ---- promise 2 ----

    private static void numbers() {
        promise = "promise 2";
        LazyHeap x = new LazyHeap();
        due("number(0, 7)", x.number(0, 7), 2);
        due("number(7, MIN)", x.number(7, Integer.MIN_VALUE), 4);
        due("value(0)", x.value(0), 7);
        due("value(7)", x.value(7), Integer.MIN_VALUE);
        due("number(0, MAX) in a root that holds", x.number(0, Integer.MAX_VALUE), 6);
        due("value(0)", x.value(0), Integer.MAX_VALUE);
        for (int r : WRONG_ROOTS) {
            dueThrowUnchanged(x, "number(" + r + ", 1)", NO_INDEX, () -> x.number(r, 1));
        }
        numbersAtTheEdgeOfTheYoungRoom();
        numbersWithoutRoom();
    }

    private static void numbersAtTheEdgeOfTheYoungRoom() {
        LazyHeap x = new LazyHeap();
        for (int made = 1; made <= 20; made++) {
            due("number " + made, x.number(0, made), 2 * made);
        }
        dueCounts(x, "40 words", 40, 0, 0, 0, 0, 0, 0);
        due("number 21", x.number(0, 21), 2);
        due("value(0)", x.value(0), 21);
        // Room is made before the root holds the new number: the one before it is still needed.
        dueCounts(x, "after 40 words", 2, 2, 1, 0, 1, 0, 0);
    }

    private static void numbersWithoutRoom() {
        LazyHeap x = crowded();
        dueCounts(x, "crowded", 39, 77, 2, 0, 26, 0, 0);
        dueThrowUnchanged(x, "number(0, 1)", NO_ROOM, () -> x.number(0, 1));
        dueThrowUnchanged(x, "number(8, 1)", NO_INDEX, () -> x.number(8, 1));
        x.drop(1);
        due("number(2, 1) when others are gone", x.number(2, 1), 2);
        dueCounts(x, "full collection", 2, 2, 2, 1, 26, 0, 0);
    }

    // ---- promise 3 ----

    private static void pairs() {
        promise = "promise 3";
        LazyHeap x = ofNumbers(1, 2);
        due("pair(2, 0, 1)", x.pair(2, 0, 1), 7);
        due("pair(2, 2, 2) of itself", x.pair(2, 2, 2), 10);
        due("kind(2)", x.kind(2), 2);
        x.part(3, 2, false);
        x.part(4, 2, true);
        due("both parts are the same", x.same(3, 4), true);
        x.part(5, 3, false);
        x.part(6, 3, true);
        due("first", x.same(5, 0), true);
        due("second", x.same(6, 1), true);
        for (int r : WRONG_ROOTS) {
            dueThrowUnchanged(x, "pair(" + r + ", 0, 1)", NO_INDEX, () -> x.pair(r, 0, 1));
            dueThrowUnchanged(x, "pair(0, " + r + ", 1)", NO_INDEX, () -> x.pair(0, r, 1));
            dueThrowUnchanged(x, "pair(0, 1, " + r + ")", NO_INDEX, () -> x.pair(0, 1, r));
        }
        dueThrowUnchanged(x, "pair of nothing", NO_INDEX, () -> x.pair(0, 7, 1));
        dueThrowUnchanged(x, "pair with nothing", NO_INDEX, () -> x.pair(0, 1, 7));
        LazyHeap full = crowded();
        dueThrowUnchanged(full, "pair without room", NO_ROOM, () -> full.pair(1, 1, 0));
        dueThrowUnchanged(full, "pair of nothing without room", NO_INDEX, () -> full.pair(1, 1, 7));
        pairsAtTheEdgeOfTheYoungRoom();
    }

    private static void pairsAtTheEdgeOfTheYoungRoom() {
        LazyHeap x = ofNumbers(1);
        for (int made = 1; made <= 11; made++) {
            x.pair(1, 0, 0);
        }
        x.number(2, 2);
        due("pair at 37 words", x.pair(1, 0, 2), 40);
        due("pair at 40 words", x.pair(1, 0, 2), 3);
        due("first of the new pair is old", first(x, 1, 3), 5);
        // Held by roots: 2 numbers and the last pair.
        dueCounts(x, "after 40 words", 3, 7, 1, 0, 3, 0, 0);
    }

    private static int first(LazyHeap x, int r, int to) {
        x.part(to, r, false);
        return x.kind(to);
    }

    // ---- promise 4 ----

    private static void thunks() {
        promise = "promise 4";
        LazyHeap x = ofNumbers(1, 2);
        for (int operation = 0; operation <= 8; operation++) {
            due("thunk(2, " + operation + ", 0, 1)", x.thunk(2, operation, 0, 1), 8 + 4 * operation);
            due("kind(2)", x.kind(2), 3);
        }
        for (int operation : new int[] {-1, 9, Integer.MIN_VALUE, Integer.MAX_VALUE}) {
            dueThrowUnchanged(x, "operation " + operation, NO_ARGUMENT, () -> x.thunk(0, operation, 0, 1));
            dueThrowUnchanged(x, "operation of nothing", NO_INDEX, () -> x.thunk(0, operation, 7, 1));
            dueThrowUnchanged(x, "operation with nothing", NO_INDEX, () -> x.thunk(0, operation, 1, 7));
            dueThrowUnchanged(x, "operation, no root", NO_INDEX, () -> x.thunk(8, operation, 0, 1));
        }
        for (int r : WRONG_ROOTS) {
            dueThrowUnchanged(x, "thunk(" + r + ", 0, 0, 1)", NO_INDEX, () -> x.thunk(r, 0, 0, 1));
            dueThrowUnchanged(x, "thunk(0, 0, " + r + ", 1)", NO_INDEX, () -> x.thunk(0, 0, r, 1));
            dueThrowUnchanged(x, "thunk(0, 0, 1, " + r + ")", NO_INDEX, () -> x.thunk(0, 0, 1, r));
        }
        due("thunk at 40 words", x.thunk(3, SUM, 2, 2), 4);
        dueCounts(x, "after 40 words", 4, 8, 1, 0, 3, 0, 0);
        LazyHeap full = crowded();
        dueThrowUnchanged(full, "thunk without room", NO_ROOM, () -> full.thunk(1, 0, 1, 0));
        dueThrowUnchanged(full, "operation without room", NO_ARGUMENT, () -> full.thunk(1, 9, 1, 0));
        dueThrowUnchanged(full, "no root, without room", NO_INDEX, () -> full.thunk(1, 9, 1, 8));
    }

    // ---- promise 5 ----

    private static void ties() {
        promise = "promise 5";
        LazyHeap x = ofNumbers(10, 20, 30);
        x.thunk(3, DIFFERENCE, 0, 1);
        x.tie(3, 2);
        x.force(3);
        due("the b that was tied", x.value(3), -20);
        dueThrowUnchanged(x, "tie of a number", NO_ARGUMENT, () -> x.tie(0, 1));
        dueThrowUnchanged(x, "tie of what was a thunk", NO_ARGUMENT, () -> x.tie(3, 1));
        x.pair(4, 0, 1);
        dueThrowUnchanged(x, "tie of a pair", NO_ARGUMENT, () -> x.tie(4, 1));
        dueThrowUnchanged(x, "tie of a number to nothing", NO_INDEX, () -> x.tie(0, 7));
        dueThrowUnchanged(x, "tie of nothing", NO_INDEX, () -> x.tie(7, 0));
        x.thunk(5, SUM, 0, 1);
        dueThrowUnchanged(x, "tie to nothing", NO_INDEX, () -> x.tie(5, 7));
        for (int r : WRONG_ROOTS) {
            dueThrowUnchanged(x, "tie(" + r + ", 0)", NO_INDEX, () -> x.tie(r, 0));
            dueThrowUnchanged(x, "tie(5, " + r + ")", NO_INDEX, () -> x.tie(5, r));
            dueThrowUnchanged(x, "tie(0, " + r + ")", NO_INDEX, () -> x.tie(0, r));
        }
        x.tie(5, 5);
        dueThrowUnchanged(x, "force of a sum with itself", NO_STATE, () -> x.force(5));
        x.tie(5, 1);
        due("force when tied anew", x.force(5), 1);
        due("value", x.value(5), 30);
        tiesOfOldThunks();
        tiesToLinks();
    }

    private static void tiesOfOldThunks() {
        LazyHeap x = ofNumbers(1, 2);
        x.thunk(2, SUM, 0, 1);
        x.number(3, 3);
        x.tie(2, 3);
        due("remembered when young", x.count(REMEMBERED), 0);
        x.collect(false);
        x.tie(2, 0);
        due("remembered when it holds old ones", x.count(REMEMBERED), 0);
        x.number(3, 4);
        x.tie(2, 3);
        x.tie(2, 3);
        due("remembered once", x.count(REMEMBERED), 1);
        x.drop(3);
        due("old words with what is remembered", x.collect(false), 12);
        due("remembered after that", x.count(REMEMBERED), 0);
        x.force(2);
        due("value", x.value(2), 5);
    }

    private static void tiesToLinks() {
        LazyHeap x = ofNumbers(1, 2);
        x.thunk(2, SUM, 0, 1);
        x.copy(3, 2);
        x.thunk(4, SUM, 0, 1);
        x.collect(false);
        x.force(2);
        due("remembered link", x.count(REMEMBERED), 1);
        x.tie(4, 3);
        due("an old link to a young number counts as that", x.count(REMEMBERED), 2);
        x.collect(false);
        x.thunk(5, SAME, 0, 0);
        x.copy(6, 5);
        x.force(5);
        x.thunk(7, SUM, 0, 0);
        x.collect(false);
        x.tie(7, 6);
        due("a young link to an old number counts as that", x.count(REMEMBERED), 0);
        x.force(4);
        due("value", x.value(4), 4);
    }

    // ---- promise 6 ----

    private static void forces() {
        promise = "promise 6";
        LazyHeap x = ofNumbers(1, 2);
        x.pair(2, 0, 1);
        due("force of a number", x.force(0), 1);
        due("force of a pair", x.force(2), 2);
        dueCounts(x, "forced what needs none", 7, 0, 0, 0, 0, 0, 0);
        dueThrowUnchanged(x, "force of nothing", NO_INDEX, () -> x.force(7));
        for (int r : WRONG_ROOTS) {
            dueThrowUnchanged(x, "force(" + r + ")", NO_INDEX, () -> x.force(r));
        }
        forcesOfNumbers();
        forcesOfParts();
        forcesOfChoices();
        forcesOfRescues();
        forcesOnce();
        forcesThatFailByKind();
        forcesThatLoop();
        forcesThatCollect();
        forcesWithoutRoom();
        forcesThatKeepValues();
        forcesOfFailuresEndSoon();
    }

    private static void forcesOfNumbers() {
        int min = Integer.MIN_VALUE;
        int max = Integer.MAX_VALUE;
        due("sum", reckoned(SUM, 6, 7), 13);
        due("sum goes round", reckoned(SUM, max, 1), min);
        due("difference", reckoned(DIFFERENCE, 6, 7), -1);
        due("difference goes round", reckoned(DIFFERENCE, min, 1), max);
        due("product", reckoned(PRODUCT, 6, -7), -42);
        due("product goes round", reckoned(PRODUCT, 65536, 65536), 0);
        due("quotient towards 0", reckoned(QUOTIENT, 7, 2), 3);
        due("quotient towards 0, a below", reckoned(QUOTIENT, -7, 2), -3);
        due("quotient towards 0, b below", reckoned(QUOTIENT, 7, -2), -3);
        due("quotient of the least by -1", reckoned(QUOTIENT, min, -1), min);
        due("quotient of 0", reckoned(QUOTIENT, 0, 5), 0);
        due("same", reckoned(SAME, 6, 7), 6);
        due("rescue that need not", reckoned(RESCUE, 6, 7), 6);
        LazyHeap x = ofNumbers(6, 0);
        x.thunk(2, QUOTIENT, 0, 1);
        dueThrowUnchanged(x, "quotient by 0", NO_ARITHMETIC, () -> x.force(2));
        x.thunk(3, SUM, 2, 0);
        dueThrowUnchanged(x, "sum of a quotient by 0", NO_ARITHMETIC, () -> x.force(3));
        x.thunk(3, SUM, 0, 2);
        dueThrowUnchanged(x, "sum with a quotient by 0", NO_ARITHMETIC, () -> x.force(3));
    }

    private static void forcesOfParts() {
        LazyHeap x = ofNumbers(1, 2);
        x.thunk(2, SUM, 0, 1);
        x.pair(3, 2, 1);
        x.thunk(4, FIRST, 3, 0);
        x.thunk(5, SECOND, 3, 0);
        due("first", x.force(4), 1);
        due("first is evaluated", x.value(4), 3);
        due("and so is what the pair holds", x.same(4, 2), true);
        due("second", x.force(5), 1);
        due("second is not made anew", x.same(5, 1), true);
        due("thunks that became links", x.count(LINKED), 3);
        x.thunk(6, SAME, 3, 0);
        due("same of a pair", x.force(6), 2);
        due("is the pair", x.same(6, 3), true);
    }

    private static void forcesOfChoices() {
        LazyHeap x = ofNumbers(1, 0, -5);
        x.thunk(3, QUOTIENT, 0, 1);
        x.pair(4, 2, 3);
        x.thunk(5, CHOICE, 0, 4);
        due("choice of the first", x.force(5), 1);
        due("the second is not evaluated", x.same(5, 2), true);
        x.thunk(5, CHOICE, 1, 4);
        dueThrow("choice of the second", NO_ARITHMETIC, () -> x.force(5));
        x.thunk(5, CHOICE, 2, 4);
        due("choice by a number below 0", x.force(5), 1);
        due("is the first", x.same(5, 2), true);
        dueChoiceFails(x, 4, 4, NO_ARGUMENT);
        dueChoiceFails(x, 0, 0, NO_ARGUMENT);
        dueChoiceFails(x, 4, 0, NO_ARGUMENT);
        // Both are evaluated before their kinds are looked at.
        dueChoiceFails(x, 4, 3, NO_ARITHMETIC);
        dueChoiceFails(x, 3, 0, NO_ARITHMETIC);
    }

    private static void dueChoiceFails(LazyHeap x, int a, int b, String want) {
        x.thunk(6, CHOICE, a, b);
        dueThrowUnchanged(x, "choice of roots " + a + " and " + b, want, () -> x.force(6));
    }

    private static void forcesOfRescues() {
        LazyHeap x = ofNumbers(1, 0);
        x.thunk(2, QUOTIENT, 0, 1);
        x.thunk(3, FIRST, 0, 0);
        x.thunk(4, RESCUE, 2, 0);
        due("rescue from zero", x.force(4), 1);
        due("is b", x.same(4, 0), true);
        x.thunk(4, RESCUE, 3, 1);
        due("rescue from kind", x.force(4), 1);
        due("is b", x.same(4, 1), true);
        x.thunk(4, RESCUE, 2, 3);
        dueThrow("rescue that fails by kind", NO_ARGUMENT, () -> x.force(4));
        x.thunk(4, RESCUE, 3, 2);
        dueThrow("rescue that fails by zero", NO_ARITHMETIC, () -> x.force(4));
        x.thunk(4, SUM, 0, 0);
        x.tie(4, 4);
        x.thunk(5, RESCUE, 4, 0);
        dueThrow("no rescue from a loop", NO_STATE, () -> x.force(5));
        x.thunk(5, RESCUE, 2, 0);
        x.tie(5, 5);
        dueThrow("rescue by itself", NO_STATE, () -> x.force(5));
    }

    private static void forcesOnce() {
        LazyHeap x = ofNumbers(2, 3);
        x.thunk(2, SUM, 0, 1);
        x.thunk(3, PRODUCT, 2, 2);
        x.thunk(4, DIFFERENCE, 3, 2);
        due("force", x.force(4), 1);
        due("value", x.value(4), 20);
        dueCounts(x, "each done once", 22, 0, 0, 0, 0, 0, 3);
        due("other roots hold the values too", x.value(3), 25);
        due("other roots hold the values too", x.kind(2), 1);
        due("force again", x.force(3), 1);
        dueCounts(x, "nothing done again", 22, 0, 0, 0, 0, 0, 3);
    }

    private static void forcesThatFailByKind() {
        for (int operation = SUM; operation <= QUOTIENT; operation++) {
            LazyHeap x = ofNumbers(1, 0);
            x.pair(2, 0, 1);
            x.thunk(3, QUOTIENT, 0, 1);
            int thunk = operation;
            x.thunk(4, thunk, 2, 0);
            dueThrowUnchanged(x, thunk + " of a pair", NO_ARGUMENT, () -> x.force(4));
            x.thunk(4, thunk, 0, 2);
            dueThrowUnchanged(x, thunk + " with a pair", NO_ARGUMENT, () -> x.force(4));
            x.thunk(4, thunk, 2, 1);
            dueThrowUnchanged(x, thunk + " of a pair with 0", NO_ARGUMENT, () -> x.force(4));
            x.thunk(4, thunk, 2, 3);
            dueThrowUnchanged(x, thunk + ": b is evaluated before", NO_ARITHMETIC, () -> x.force(4));
        }
        for (int operation = FIRST; operation <= SECOND; operation++) {
            LazyHeap x = ofNumbers(1, 0);
            x.thunk(2, operation, 0, 0);
            dueThrowUnchanged(x, operation + " of a number", NO_ARGUMENT, () -> x.force(2));
            due("is a thunk as before", x.kind(2), 3);
        }
    }

    private static void forcesThatLoop() {
        LazyHeap twelve = chainOfThunks(12);
        due("12 running", twelve.force(1), 1);
        due("links", twelve.count(LINKED), 12);
        LazyHeap more = chainOfThunks(13);
        dueThrowUnchanged(more, "13 running", NO_STATE, () -> more.force(1));
        dueThrowUnchanged(more, "13 running, again", NO_STATE, () -> more.force(1));
        LazyHeap half = chainOfThunks(12);
        half.copy(2, 1);
        half.thunk(3, SAME, 2, 2);
        dueThrow("13 running", NO_STATE, () -> half.force(3));
        due("12 of them", half.force(2), 1);
        due("then the 13th", half.force(3), 1);
        // A thunk that was rescued from runs no more, and does not count among the 12.
        LazyHeap rescued = ofNumbers(1, 0);
        rescued.thunk(2, QUOTIENT, 0, 1);
        rescued.thunk(3, RESCUE, 2, 0);
        for (int made = 0; made < 10; made++) {
            rescued.thunk(3, SAME, 3, 3);
        }
        due("12 running, one fails", rescued.force(3), 1);
        due("links", rescued.count(LINKED), 11);
    }

    private static void forcesThatCollect() {
        LazyHeap x = ofNumbers(1);
        x.thunk(1, SUM, 0, 0);
        x.copy(2, 1);
        x.thunk(3, SUM, 1, 1);
        x.drop(1);
        x.drop(2);
        for (int made = 0; made < 7; made++) {
            x.thunk(4, SAME, 0, 0);
        }
        x.number(4, 9);
        dueCounts(x, "before", 40, 0, 0, 0, 0, 0, 0);
        due("force", x.force(3), 1);
        due("value", x.value(3), 4);
        // Both running thunks and two numbers became old; both links hold a young number.
        dueCounts(x, "after", 4, 12, 1, 0, 4, 2, 2);
        due("the value is young", x.kind(3), 1);
        due("links hold one of the numbers each", x.collect(false), 16);
        dueCounts(x, "collected", 0, 16, 2, 0, 6, 0, 2);
    }

    private static void forcesWithoutRoom() {
        LazyHeap x = crowdedWithThunk();
        dueThrowUnchanged(x, "force without room", NO_ROOM, () -> x.force(2));
        due("is a thunk as before", x.kind(2), 7);
        dueThrowUnchanged(x, "no rescue from that", NO_ROOM, () -> x.force(3));
        due("full collections", x.count(FULL), 0);
        x.drop(1);
        due("force when there is room", x.force(2), 1);
        due("value", x.value(2), 10);
        due("full collections", x.count(FULL), 1);
    }

    /** As crowded, but with an old thunk in root 2, and a rescue of it in root 3. */
    private static LazyHeap crowdedWithThunk() {
        LazyHeap x = ofNumbers(5);
        x.thunk(2, SUM, 0, 0);
        x.thunk(3, RESCUE, 2, 0);
        x.pair(1, 0, 0);
        while (x.count(OLD_WORDS) < 75 || x.count(YOUNG_WORDS) < 39) {
            x.pair(1, 1, 0);
        }
        return x;
    }

    private static void forcesThatKeepValues() {
        LazyHeap x = ofNumbers(4, 0);
        x.thunk(2, SUM, 0, 0);
        x.thunk(3, QUOTIENT, 2, 1);
        x.thunk(4, SUM, 2, 3);
        dueThrow("fails after a value was found", NO_ARITHMETIC, () -> x.force(4));
        due("the value is kept", x.value(2), 8);
        due("the failed ones are thunks", x.kind(3), 3);
        due("the failed ones are thunks", x.kind(4), 3);
        dueCounts(x, "one link", 18, 0, 0, 0, 0, 0, 1);
        for (int made = 0; made < 11; made++) {
            x.number(5, made);
        }
        x.thunk(2, SUM, 0, 0);
        x.thunk(4, SUM, 2, 3);
        for (int made = 0; made < 16; made++) {
            x.number(5, made);
        }
        dueCounts(x, "before", 40, 16, 1, 0, 6, 0, 1);
        dueThrow("fails after a collection", NO_ARITHMETIC, () -> x.force(4));
        dueCounts(x, "the collection is kept", 2, 26, 2, 0, 9, 1, 2);
    }

    private static void forcesOfFailuresEndSoon() {
        LazyHeap x = ofNumbers(1, 0);
        x.thunk(2, QUOTIENT, 0, 1);
        for (int made = 0; made < 11; made++) {
            x.thunk(2, RESCUE, 2, 2);
        }
        dueThrow("rescues of rescues", NO_ARITHMETIC, () -> x.force(2));
    }

    // ---- promise 7 ----

    private static void parts() {
        promise = "promise 7";
        LazyHeap x = ofNumbers(1, 2);
        x.thunk(2, SUM, 0, 1);
        x.pair(3, 0, 2);
        x.part(4, 3, false);
        x.part(5, 3, true);
        due("first", x.same(4, 0), true);
        due("second is not evaluated", x.kind(5), 3);
        due("second", x.same(5, 2), true);
        x.force(2);
        x.part(5, 3, true);
        due("second has its value", x.value(5), 3);
        dueThrowUnchanged(x, "part of a number", NO_ARGUMENT, () -> x.part(4, 0, false));
        x.thunk(2, SAME, 3, 3);
        dueThrowUnchanged(x, "part of a thunk", NO_ARGUMENT, () -> x.part(4, 2, true));
        dueThrowUnchanged(x, "part of nothing", NO_INDEX, () -> x.part(4, 7, true));
        for (int r : WRONG_ROOTS) {
            dueThrowUnchanged(x, "part(" + r + ", 3, true)", NO_INDEX, () -> x.part(r, 3, true));
            dueThrowUnchanged(x, "part(" + r + ", 0, true)", NO_INDEX, () -> x.part(r, 0, true));
            dueThrowUnchanged(x, "part(4, " + r + ", true)", NO_INDEX, () -> x.part(4, r, true));
        }
        x.part(3, 3, false);
        due("part of itself", x.same(3, 0), true);
        x.force(2);
        x.part(7, 2, false);
        due("a link to a pair has parts", x.same(7, 0), true);
    }

    // ---- promise 8 ----

    private static void copies() {
        promise = "promise 8";
        LazyHeap x = ofNumbers(1);
        x.copy(7, 0);
        due("same", x.same(0, 7), true);
        due("nothing is made", x.count(YOUNG_WORDS), 2);
        x.copy(0, 0);
        due("copy to itself", x.value(0), 1);
        x.copy(0, 3);
        due("copy of nothing", x.kind(0), 0);
        due("value", x.value(7), 1);
        for (int r : WRONG_ROOTS) {
            dueThrowUnchanged(x, "copy(" + r + ", 7)", NO_INDEX, () -> x.copy(r, 7));
            dueThrowUnchanged(x, "copy(7, " + r + ")", NO_INDEX, () -> x.copy(7, r));
        }
    }

    // ---- promise 9 ----

    private static void drops() {
        promise = "promise 9";
        LazyHeap x = ofNumbers(1, 2);
        x.drop(0);
        due("kind", x.kind(0), 0);
        due("the other", x.value(1), 2);
        due("words stay used", x.count(YOUNG_WORDS), 4);
        x.drop(0);
        due("drop of nothing", x.kind(0), 0);
        due("what was dropped is not kept", x.collect(false), 2);
        for (int r : WRONG_ROOTS) {
            dueThrowUnchanged(x, "drop(" + r + ")", NO_INDEX, () -> x.drop(r));
        }
    }

    // ---- promise 10 ----

    private static void kinds() {
        promise = "promise 10";
        LazyHeap x = ofNumbers(1);
        x.pair(1, 0, 0);
        x.thunk(2, SUM, 0, 0);
        x.copy(3, 2);
        int[] young = {1, 2, 3, 3, 0, 0, 0, 0};
        int[] old = {5, 6, 7, 7, 0, 0, 0, 0};
        int[] forced = {5, 6, 1, 1, 0, 0, 0, 0};
        int[] again = {5, 6, 5, 5, 0, 0, 0, 0};
        dueKinds(x, young);
        x.collect(false);
        dueKinds(x, old);
        x.force(3);
        dueKinds(x, forced);
        x.collect(true);
        dueKinds(x, again);
        for (int r : WRONG_ROOTS) {
            dueThrowUnchanged(x, "kind(" + r + ")", NO_INDEX, () -> x.kind(r));
        }
    }

    private static void dueKinds(LazyHeap x, int[] want) {
        for (int r = 0; r < 8; r++) {
            due("kind(" + r + ")", x.kind(r), want[r]);
        }
    }

    // ---- promise 11 ----

    private static void values() {
        promise = "promise 11";
        LazyHeap x = ofNumbers(-1);
        due("value", x.value(0), -1);
        x.pair(1, 0, 0);
        x.thunk(2, SUM, 0, 0);
        x.copy(3, 2);
        dueThrowUnchanged(x, "value of a pair", NO_ARGUMENT, () -> x.value(1));
        dueThrowUnchanged(x, "value of a thunk", NO_ARGUMENT, () -> x.value(2));
        dueThrowUnchanged(x, "value of nothing", NO_INDEX, () -> x.value(7));
        x.force(2);
        due("value of a link", x.value(3), -2);
        for (int r : WRONG_ROOTS) {
            dueThrowUnchanged(x, "value(" + r + ")", NO_INDEX, () -> x.value(r));
        }
    }

    // ---- promise 12 ----

    private static void sames() {
        promise = "promise 12";
        LazyHeap x = ofNumbers(1, 1);
        due("numbers alike", x.same(0, 1), false);
        due("with itself", x.same(0, 0), true);
        due("nothing with itself", x.same(7, 7), false);
        due("nothing with nothing", x.same(6, 7), false);
        due("nothing with a number", x.same(6, 0), false);
        due("a number with nothing", x.same(0, 6), false);
        x.thunk(2, SAME, 0, 0);
        x.copy(3, 2);
        due("a thunk with its a", x.same(2, 0), false);
        due("a thunk with itself", x.same(2, 3), true);
        x.force(2);
        due("a link with its value", x.same(3, 0), true);
        due("a link with itself", x.same(3, 2), true);
        x.pair(4, 0, 0);
        x.copy(5, 4);
        x.collect(false);
        due("the same after a collection", x.same(4, 5), true);
        due("others after a collection", x.same(0, 1), false);
        for (int r : WRONG_ROOTS) {
            dueThrowUnchanged(x, "same(" + r + ", 0)", NO_INDEX, () -> x.same(r, 0));
            dueThrowUnchanged(x, "same(0, " + r + ")", NO_INDEX, () -> x.same(0, r));
            dueThrowUnchanged(x, "same(7, " + r + ")", NO_INDEX, () -> x.same(7, r));
        }
    }

    // ---- promise 13 ----

    private static void collects() {
        promise = "promise 13";
        LazyHeap x = new LazyHeap();
        due("minor, no objects", x.collect(false), 0);
        due("full, no objects", x.collect(true), 0);
        dueCounts(x, "both count", 0, 0, 1, 1, 0, 0, 0);
        collectsOfCycles();
        collectsOfGarbage();
        collectsOfLinks();
        collectsOfWhatIsRemembered();
        collectsAtTheEdge();
    }

    private static void collectsOfCycles() {
        LazyHeap x = ofNumbers(1);
        x.thunk(1, SUM, 0, 0);
        x.pair(2, 1, 0);
        x.tie(1, 2);
        x.drop(0);
        x.drop(1);
        due("minor of a cycle", x.collect(false), 9);
        due("full of a cycle", x.collect(true), 9);
        x.drop(2);
        due("minor leaves what is old", x.collect(false), 9);
        due("full does not", x.collect(true), 0);
    }

    private static void collectsOfGarbage() {
        LazyHeap x = ofNumbers(1, 2, 3);
        x.drop(1);
        due("minor", x.collect(false), 4);
        dueCounts(x, "minor", 0, 4, 1, 0, 2, 0, 0);
        x.drop(2);
        x.number(3, 4);
        due("minor again", x.collect(false), 6);
        x.number(4, 5);
        due("full", x.collect(true), 6);
        dueCounts(x, "full adds none to those grown old in minor ones", 0, 6, 2, 1, 3, 0, 0);
        due("values are kept", x.value(0) * 100 + x.value(3) * 10 + x.value(4), 145);
    }

    private static void collectsOfLinks() {
        LazyHeap x = ofNumbers(1);
        x.thunk(1, SUM, 0, 0);
        x.copy(2, 1);
        x.pair(3, 1, 1);
        x.force(1);
        due("young words", x.count(YOUNG_WORDS), 11);
        due("young links are gone", x.collect(false), 7);
        x.thunk(1, SUM, 0, 0);
        x.pair(3, 1, 1);
        x.copy(2, 1);
        due("a thunk", x.collect(false), 14);
        x.force(1);
        due("old links stay in a minor one", x.collect(false), 16);
        due("old links are gone in a full one", x.collect(true), 7);
        x.part(4, 3, true);
        due("the pair holds the value", x.same(4, 2), true);
    }

    private static void collectsOfWhatIsRemembered() {
        LazyHeap x = ofNumbers(1);
        x.thunk(1, SUM, 0, 0);
        x.collect(false);
        x.number(2, 7);
        x.pair(3, 2, 2);
        x.tie(1, 3);
        x.drop(1);
        x.drop(2);
        x.drop(3);
        due("what is remembered holds, though nothing holds it", x.collect(false), 11);
        due("a full one asks for the roots alone", x.collect(true), 2);
        x.thunk(1, SUM, 0, 0);
        x.collect(false);
        x.number(2, 7);
        x.tie(1, 2);
        x.force(1);
        due("a link that was tied before", x.count(REMEMBERED), 1);
        x.drop(2);
        due("holds its value alone", x.collect(false), 8);
        due("nothing is remembered after that", x.count(REMEMBERED), 0);
        x.thunk(1, SUM, 0, 0);
        x.collect(false);
        x.number(2, 7);
        x.tie(1, 2);
        x.drop(1);
        x.drop(2);
        due("a full one does not ask for what is remembered", x.collect(true), 2);
        due("nothing is remembered after a full one", x.count(REMEMBERED), 0);
    }

    private static void collectsAtTheEdge() {
        LazyHeap x = ofNumbers(0, 0);
        while (x.count(OLD_WORDS) < 38) {
            x.pair(1, 0, 1);
            x.collect(false);
        }
        due("old words", x.count(OLD_WORDS), 40);
        for (int made = 0; made < 20; made++) {
            x.number(0, made);
        }
        due("minor at 80 words", x.collect(false), 42);
        for (int made = 0; made < 20; made++) {
            x.number(0, made);
        }
        dueThrowUnchanged(x, "minor at 82 words", NO_ROOM, () -> x.collect(false));
        due("full at 82 words", x.collect(true), 42);
        for (int made = 0; made < 13; made++) {
            x.pair(1, 0, 0);
        }
        due("minor at 81 words", throwing(() -> x.collect(false)), true);
        collectsAtTheEdgeOfTheOldRoom();
    }

    private static void collectsAtTheEdgeOfTheOldRoom() {
        LazyHeap x = crowded();
        dueThrowUnchanged(x, "full of 116 words", NO_ROOM, () -> x.collect(true));
        dueThrowUnchanged(x, "minor of 116 words", NO_ROOM, () -> x.collect(false));
        for (int left = 0; left < 12; left++) {
            x.part(1, 1, false);
        }
        x.pair(1, 1, 0);
        due("full of 80 words", x.count(FULL), 1);
        due("old words", x.count(OLD_WORDS), 80);
        due("full of 83 words", throwing(() -> x.collect(true)), true);
        x.part(1, 1, false);
        due("full of 80 words again", x.collect(true), 80);
        x.part(1, 1, false);
        x.number(2, 1);
        x.number(3, 2);
        dueThrowUnchanged(x, "full of 81 words", NO_ROOM, () -> x.collect(true));
    }

    private static boolean throwing(Call call) {
        try {
            call.run();
            return false;
        } catch (UnsupportedOperationException e) {
            return true;
        }
    }

    // ---- promise 14 ----

    private static void counts() {
        promise = "promise 14";
        LazyHeap x = ofNumbers(1, 2);
        for (int which : new int[] {-1, 7, 8, Integer.MIN_VALUE, Integer.MAX_VALUE}) {
            dueThrowUnchanged(x, "count(" + which + ")", NO_ARGUMENT, () -> x.count(which));
        }
        dueCounts(x, "two numbers", 4, 0, 0, 0, 0, 0, 0);
        x.thunk(2, SUM, 0, 1);
        dueCounts(x, "and a thunk", 8, 0, 0, 0, 0, 0, 0);
        x.collect(false);
        dueCounts(x, "grown old", 0, 8, 1, 0, 3, 0, 0);
        x.force(2);
        dueCounts(x, "forced", 2, 8, 1, 0, 3, 1, 1);
        x.collect(true);
        dueCounts(x, "collected", 0, 6, 1, 1, 3, 0, 1);
        x.thunk(3, SAME, 2, 2);
        x.collect(false);
        x.force(3);
        dueCounts(x, "an old link to an old number is not remembered", 0, 10, 2, 1, 4, 0, 2);
    }

    public static void main(String[] args) {
        face();
        newObject();
        numbers();
        pairs();
        thunks();
        ties();
        forces();
        parts();
        copies();
        drops();
        kinds();
        values();
        sames();
        collects();
        counts();
        System.out.println(wrong == 0 ? checks + " answers are as due" : wrong + " answers are not as due");
        if (wrong != 0) {
            System.exit(1);
        }
    }
}
