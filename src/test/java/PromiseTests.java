import java.lang.reflect.Constructor;
import java.lang.reflect.Field;
import java.lang.reflect.Method;
import java.lang.reflect.Modifier;
import java.util.Arrays;
import java.util.TreeSet;

/**
 * The sentences of '## Promise 1' to '## Promise 14', and the public face: each has a test of its
 * own, which begins with its words. What the terms in them mean is for the other tests.
 */
public final class PromiseTests extends Checks {
    // ---- the face ----

    private static void face() {
        sentence("The public face");
        int modifiers = LazyHeap.class.getModifiers();
        due("public and final", Modifier.isPublic(modifiers) && Modifier.isFinal(modifiers), true);
        for (Field f : LazyHeap.class.getDeclaredFields()) {
            due("private field " + f.getName(), Modifier.isPrivate(f.getModifiers()), true);
        }
        String i = NO_INDEX;
        String a = NO_ARGUMENT;
        String u = NO_ROOM;
        TreeSet<String> want = new TreeSet<>(Arrays.asList(
                "public new ()()",
                "public int number(int,int)(" + i + "," + u + ")",
                "public int pair(int,int,int)(" + i + "," + u + ")",
                "public int thunk(int,int,int,int)(" + i + "," + a + "," + u + ")",
                "public void tie(int,int)(" + i + "," + a + ")",
                "public int force(int)(" + i + "," + NO_ARITHMETIC + "," + a + "," + NO_STATE + "," + u + ")",
                "public void part(int,int,boolean)(" + i + "," + a + ")",
                "public void copy(int,int)(" + i + ")",
                "public void drop(int)(" + i + ")",
                "public int kind(int)(" + i + ")",
                "public int value(int)(" + i + "," + a + ")",
                "public boolean same(int,int)(" + i + ")",
                "public int collect(boolean)(" + u + ")",
                "public int count(int)(" + a + ")"));
        due("the face", faceOfTheClass().toString(), want.toString());
    }

    private static TreeSet<String> faceOfTheClass() {
        TreeSet<String> face = new TreeSet<>();
        for (Method m : LazyHeap.class.getDeclaredMethods()) {
            if (!Modifier.isPrivate(m.getModifiers())) {
                face.add(Modifier.toString(m.getModifiers()) + " " + m.getReturnType() + " " + m.getName()
                        + names(m.getParameterTypes()) + names(m.getExceptionTypes()));
            }
        }
        for (Constructor<?> c : LazyHeap.class.getDeclaredConstructors()) {
            face.add(Modifier.toString(c.getModifiers()) + " new " + names(c.getParameterTypes())
                    + names(c.getExceptionTypes()));
        }
        return face;
    }

    private static String names(Class<?>[] types) {
        StringBuilder text = new StringBuilder("(");
        for (int i = 0; i < types.length; i++) {
            text.append(i == 0 ? "" : ",").append(types[i].getSimpleName());
        }
        return text.append(")").toString();
    }

    // ---- promise 1: a new object ----

    private static void newObject() {
        sentence("All roots hold nothing; no objects.");
        LazyHeap x = new LazyHeap();
        for (int r = 0; r < 8; r++) {
            due("kind(" + r + ")", x.kind(r), 0);
        }
        dueCounts(x, "new", 0, 0, 0, 0, 0, 0, 0);
        LazyHeap other = ofNumbers(1, 2);
        other.thunk(2, SUM, 0, 1);
        other.collect(false);
        other.force(2);
        other.collect(true);
        due("kind(0), beside another heap", x.kind(0), 0);
        dueCounts(x, "new, beside another heap", 0, 0, 0, 0, 0, 0, 0);
    }

    // ---- promise 2: number ----

    private static void numbers() {
        sentence("Root r holds a new number: how many words young objects use then.");
        LazyHeap x = new LazyHeap();
        due("number(0, 7)", x.number(0, 7), 2);
        due("number(7, MIN)", x.number(7, Integer.MIN_VALUE), 4);
        due("value(0)", x.value(0), 7);
        due("value(7)", x.value(7), Integer.MIN_VALUE);
        due("number(0, MAX) in a root that holds", x.number(0, Integer.MAX_VALUE), 6);
        due("value(0)", x.value(0), Integer.MAX_VALUE);
        x.number(1, Integer.MAX_VALUE);
        due("a number like another one is a new one", x.same(0, 1), false);
        LazyHeap y = new LazyHeap();
        for (int made = 1; made <= 20; made++) {
            due("number " + made, y.number(0, made), 2 * made);
        }
        due("number 21, after a collection", y.number(0, 21), 2);
        due("value", y.value(0), 21);
        dueCounts(y, "then", 2, 2, 1, 0, 1, 0, 0);
    }

    private static void numbersInNoRoot() {
        sentence("number: IndexOutOfBoundsException: there is no root r");
        LazyHeap x = ofNumbers(1);
        for (int r : WRONG_ROOTS) {
            dueThrowUnchanged(x, "number(" + r + ", 1)", NO_INDEX, () -> x.number(r, 1));
        }
    }

    private static void numbersWithoutRoom() {
        sentence("number: UnsupportedOperationException: there is no room.");
        LazyHeap x = ofNumbers(5);
        crowd(x);
        dueThrowUnchanged(x, "number(0, 1)", NO_ROOM, () -> x.number(0, 1));
        x.drop(1);
        due("number(2, 1) when others are not live any more", x.number(2, 1), 2);
        due("full collections", x.count(FULL), 1);
    }

    // ---- promise 3: pair ----

    private static void pairs() {
        sentence("Root r holds a new pair of what roots a and b hold: likewise.");
        LazyHeap x = ofNumbers(1, 2);
        due("pair(2, 0, 1)", x.pair(2, 0, 1), 7);
        due("kind(2)", x.kind(2), 2);
        x.part(5, 2, false);
        x.part(6, 2, true);
        due("first", x.same(5, 0), true);
        due("second", x.same(6, 1), true);
        x.copy(7, 2);
        due("pair(2, 2, 2) of what the root held", x.pair(2, 2, 2), 10);
        x.part(5, 2, false);
        x.part(6, 2, true);
        due("both are the pair before", x.same(5, 7) && x.same(6, 7), true);
        x.pair(3, 0, 1);
        x.pair(4, 0, 1);
        due("a pair like another one is a new one", x.same(3, 4), false);
        x.thunk(5, QUOTIENT, 0, 0);
        x.pair(6, 5, 5);
        due("a thunk in a pair is put off", x.kind(5), 3);
        useYoung(x, 40);
        due("pair(3, 0, 1), after a collection", x.pair(3, 0, 1), 3);
    }

    private static void pairsOfNothing() {
        sentence("pair: IndexOutOfBoundsException: there is no root r, a or b, or a or b holds nothing");
        LazyHeap x = ofNumbers(1, 2);
        for (int r : WRONG_ROOTS) {
            dueThrowUnchanged(x, "pair(" + r + ", 0, 1)", NO_INDEX, () -> x.pair(r, 0, 1));
            dueThrowUnchanged(x, "pair(0, " + r + ", 1)", NO_INDEX, () -> x.pair(0, r, 1));
            dueThrowUnchanged(x, "pair(0, 1, " + r + ")", NO_INDEX, () -> x.pair(0, 1, r));
        }
        dueThrowUnchanged(x, "a holds nothing", NO_INDEX, () -> x.pair(0, 7, 1));
        dueThrowUnchanged(x, "b holds nothing", NO_INDEX, () -> x.pair(0, 1, 7));
        dueThrowUnchanged(x, "all three are the same, which holds nothing", NO_INDEX, () -> x.pair(7, 7, 7));
        due("r may hold nothing", x.pair(7, 0, 1), 7);
    }

    private static void pairsWithoutRoom() {
        sentence("pair: UnsupportedOperationException: there is no room.");
        LazyHeap x = ofNumbers(5);
        crowd(x);
        dueThrowUnchanged(x, "pair(1, 1, 0)", NO_ROOM, () -> x.pair(1, 1, 0));
        x.drop(1);
        due("pair(1, 0, 0) when others are not live any more", x.pair(1, 0, 0), 3);
    }

    // ---- promise 4: thunk ----

    private static void thunks() {
        sentence("Root r holds a new thunk of an operation and what roots a and b hold: likewise.");
        LazyHeap x = ofNumbers(1, 2);
        for (int operation = 0; operation <= 8; operation++) {
            due("thunk(2, " + operation + ", 0, 1)", x.thunk(2, operation, 0, 1), 8 + 4 * operation);
            due("kind(2)", x.kind(2), 3);
        }
        due("thunk(3, 0, 2, 2), after a collection", x.thunk(3, SUM, 2, 2), 4);
        x.thunk(4, SUM, 2, 2);
        due("a thunk like another one is a new one", x.same(3, 4), false);
        due("nothing is evaluated yet", x.count(LINKED), 0);
        LazyHeap y = ofNumbers(7, 2);
        y.thunk(0, DIFFERENCE, 0, 1);
        y.thunk(0, DIFFERENCE, 0, 1);
        due("a thunk of what the root held", y.force(0) * 10 + y.value(0), 13);
    }

    private static void thunksOfNothing() {
        sentence("thunk: IndexOutOfBoundsException as in pair");
        LazyHeap x = ofNumbers(1, 2);
        for (int r : WRONG_ROOTS) {
            dueThrowUnchanged(x, "thunk(" + r + ", 0, 0, 1)", NO_INDEX, () -> x.thunk(r, 0, 0, 1));
            dueThrowUnchanged(x, "thunk(0, 0, " + r + ", 1)", NO_INDEX, () -> x.thunk(0, 0, r, 1));
            dueThrowUnchanged(x, "thunk(0, 0, 1, " + r + ")", NO_INDEX, () -> x.thunk(0, 0, 1, r));
        }
        for (int operation = 0; operation <= 8; operation++) {
            int of = operation;
            dueThrowUnchanged(x, "a holds nothing, operation " + of, NO_INDEX, () -> x.thunk(0, of, 7, 1));
            dueThrowUnchanged(x, "b holds nothing, operation " + of, NO_INDEX, () -> x.thunk(0, of, 1, 7));
        }
        due("r may hold nothing", x.thunk(7, SUM, 0, 1), 8);
    }

    private static void thunksOfNoOperation() {
        sentence("thunk: IllegalArgumentException: operation is not 0 .. 8");
        LazyHeap x = ofNumbers(1, 2);
        for (int operation : new int[] {-1, 9, 10, Integer.MIN_VALUE, Integer.MAX_VALUE}) {
            dueThrowUnchanged(x, "operation " + operation, NO_ARGUMENT, () -> x.thunk(2, operation, 0, 1));
        }
        due("operation 8", x.thunk(2, 8, 0, 1), 8);
        due("operation 0", x.thunk(2, 0, 0, 1), 12);
    }

    private static void thunksWithoutRoom() {
        sentence("thunk: UnsupportedOperationException: there is no room.");
        LazyHeap x = ofNumbers(5);
        crowd(x);
        dueThrowUnchanged(x, "thunk(1, 0, 1, 0)", NO_ROOM, () -> x.thunk(1, 0, 1, 0));
        x.drop(1);
        due("thunk(1, 0, 0, 0) when others are not live any more", x.thunk(1, 0, 0, 0), 4);
    }

    // ---- promise 5: tie ----

    private static void ties() {
        sentence("The thunk that root r holds has what root b holds for its b from now on (perhaps itself).");
        LazyHeap x = ofNumbers(10, 20, 30);
        x.thunk(3, DIFFERENCE, 0, 1);
        x.copy(4, 3);
        x.tie(3, 2);
        due("words", x.count(YOUNG_WORDS), 10);
        due("it is the same thunk", x.same(3, 4), true);
        due("it has another b", x.force(4) * 100 + x.value(4), 80);
        x.thunk(5, SUM, 0, 1);
        x.tie(5, 5);
        due("it has itself", x.kind(5), 3);
        dueThrowUnchanged(x, "force of a sum with itself", NO_STATE, () -> x.force(5));
        x.tie(5, 1);
        due("it is tied anew", x.force(5) * 100 + x.value(5), 130);
        x.thunk(6, SAME, 0, 0);
        x.tie(6, 6);
        due("itself, where b is not wanted", x.force(6), 1);
        due("is a", x.same(6, 0), true);
    }

    private static void tiesOfNothing() {
        sentence("tie: IndexOutOfBoundsException: there is no root r or b, or one holds nothing");
        LazyHeap x = ofNumbers(1, 2);
        x.thunk(5, SUM, 0, 1);
        for (int r : WRONG_ROOTS) {
            dueThrowUnchanged(x, "tie(" + r + ", 0)", NO_INDEX, () -> x.tie(r, 0));
            dueThrowUnchanged(x, "tie(5, " + r + ")", NO_INDEX, () -> x.tie(5, r));
        }
        dueThrowUnchanged(x, "r holds nothing", NO_INDEX, () -> x.tie(7, 0));
        dueThrowUnchanged(x, "b holds nothing", NO_INDEX, () -> x.tie(5, 7));
        dueThrowUnchanged(x, "both hold nothing", NO_INDEX, () -> x.tie(7, 7));
    }

    private static void tiesOfNoThunks() {
        sentence("tie: IllegalArgumentException: root r holds no thunk.");
        LazyHeap x = ofNumbers(1, 2);
        x.pair(2, 0, 1);
        x.thunk(3, SUM, 0, 1);
        dueThrowUnchanged(x, "tie of a number", NO_ARGUMENT, () -> x.tie(0, 3));
        dueThrowUnchanged(x, "tie of a pair", NO_ARGUMENT, () -> x.tie(2, 3));
        x.part(4, 2, true);
        due("the pair is as before", x.same(4, 1), true);
        x.copy(4, 3);
        x.force(3);
        dueThrowUnchanged(x, "tie of what was a thunk", NO_ARGUMENT, () -> x.tie(4, 0));
    }

    // ---- promise 6: force ----

    private static void forces() {
        sentence("What root r holds is evaluated; r holds its value then: 1 when that is a number, 2 when it is a pair.");
        LazyHeap x = ofNumbers(1, 2);
        x.pair(2, 0, 1);
        due("a number", x.force(0), 1);
        due("a pair", x.force(2), 2);
        x.thunk(3, SUM, 0, 1);
        x.thunk(4, SAME, 2, 2);
        due("a thunk that gives a number", x.force(3), 1);
        due("the root holds it", x.kind(3) * 10 + x.value(3), 13);
        due("a thunk that gives a pair", x.force(4), 2);
        due("the root holds it", x.same(4, 2), true);
        x.collect(false);
        due("an old number", x.force(0), 1);
        due("an old pair", x.force(2), 2);
        due("a value again", x.force(3), 1);
        due("a value again", x.force(4), 2);
    }

    private static void forcesOfNothing() {
        sentence("force: IndexOutOfBoundsException: there is no root r, or it holds nothing.");
        LazyHeap x = ofNumbers(1, 2);
        dueThrowUnchanged(x, "force of nothing", NO_INDEX, () -> x.force(7));
        for (int r : WRONG_ROOTS) {
            dueThrowUnchanged(x, "force(" + r + ")", NO_INDEX, () -> x.force(r));
        }
    }

    private static void forcesThatFail() {
        sentence("Otherwise, when it fails: ArithmeticException by ZERO, IllegalArgumentException by KIND,"
                + " IllegalStateException by LOOP, UnsupportedOperationException by ROOM.");
        LazyHeap x = ofNumbers(1, 0);
        x.thunk(2, QUOTIENT, 0, 1);
        x.thunk(3, FIRST, 0, 1);
        x.thunk(4, SUM, 0, 1);
        x.thunk(5, SUM, 0, 1);
        x.tie(4, 4);
        crowd(x);
        dueThrowUnchanged(x, "ZERO", NO_ARITHMETIC, () -> x.force(2));
        dueThrowUnchanged(x, "KIND", NO_ARGUMENT, () -> x.force(3));
        dueThrowUnchanged(x, "LOOP", NO_STATE, () -> x.force(4));
        dueThrowUnchanged(x, "ROOM", NO_ROOM, () -> x.force(5));
    }

    // ---- promise 7: part ----

    private static void parts() {
        sentence("Root to holds the first (or the second) of the pair that root r holds.");
        LazyHeap x = ofNumbers(1, 2);
        x.thunk(2, SUM, 0, 1);
        x.pair(3, 0, 2);
        x.part(4, 3, false);
        x.part(5, 3, true);
        due("first", x.same(4, 0), true);
        due("second, which is put off still", x.same(5, 2) && x.kind(5) == 3, true);
        x.force(2);
        x.part(5, 3, true);
        due("second, which has its value", x.value(5), 3);
        due("nothing is made", x.count(YOUNG_WORDS), 13);
        x.collect(false);
        x.part(4, 3, false);
        due("first of an old pair", x.kind(4) * 10 + x.value(4), 51);
        x.part(3, 3, true);
        due("to the root of the pair itself", x.value(3), 3);
    }

    private static void partsOfNothing() {
        sentence("part: IndexOutOfBoundsException: there is no root to or r, or r holds nothing");
        LazyHeap x = ofNumbers(1, 2);
        x.pair(3, 0, 1);
        for (int r : WRONG_ROOTS) {
            dueThrowUnchanged(x, "part(" + r + ", 3, true)", NO_INDEX, () -> x.part(r, 3, true));
            dueThrowUnchanged(x, "part(4, " + r + ", true)", NO_INDEX, () -> x.part(4, r, true));
        }
        dueThrowUnchanged(x, "first of nothing", NO_INDEX, () -> x.part(4, 7, false));
        dueThrowUnchanged(x, "second of nothing", NO_INDEX, () -> x.part(7, 7, true));
        x.part(7, 3, false);
        due("to may hold nothing", x.same(7, 0), true);
    }

    private static void partsOfNoPairs() {
        sentence("part: IllegalArgumentException: r holds no pair.");
        LazyHeap x = ofNumbers(1, 2);
        x.pair(3, 0, 1);
        x.thunk(2, SAME, 3, 3);
        dueThrowUnchanged(x, "first of a number", NO_ARGUMENT, () -> x.part(4, 0, false));
        dueThrowUnchanged(x, "second of a number", NO_ARGUMENT, () -> x.part(4, 0, true));
        dueThrowUnchanged(x, "first of a thunk", NO_ARGUMENT, () -> x.part(4, 2, false));
        dueThrowUnchanged(x, "second of a thunk", NO_ARGUMENT, () -> x.part(4, 2, true));
    }

    // ---- promise 8: copy ----

    private static void copies() {
        sentence("Root to holds what root r holds (perhaps nothing).");
        LazyHeap x = ofNumbers(1);
        x.copy(7, 0);
        due("the same object", x.same(0, 7), true);
        due("nothing is made", x.count(YOUNG_WORDS), 2);
        x.copy(0, 0);
        due("to itself", x.value(0), 1);
        x.copy(0, 3);
        due("of nothing", x.kind(0), 0);
        due("the other root holds it still", x.value(7), 1);
        x.copy(3, 3);
        due("of nothing to itself", x.kind(3), 0);
        x.copy(0, 7);
        x.drop(7);
        due("to where nothing was", x.value(0), 1);
    }

    private static void copiesOfNoRoots() {
        sentence("copy: IndexOutOfBoundsException: there is no root to or r.");
        LazyHeap x = ofNumbers(1);
        for (int r : WRONG_ROOTS) {
            dueThrowUnchanged(x, "copy(" + r + ", 0)", NO_INDEX, () -> x.copy(r, 0));
            dueThrowUnchanged(x, "copy(0, " + r + ")", NO_INDEX, () -> x.copy(0, r));
        }
    }

    // ---- promise 9: drop ----

    private static void drops() {
        sentence("Root r holds nothing.");
        LazyHeap x = ofNumbers(1, 2);
        x.copy(2, 0);
        x.drop(0);
        due("kind", x.kind(0), 0);
        due("another root holds it still", x.value(2), 1);
        due("the others", x.value(1), 2);
        due("words stay used", x.count(YOUNG_WORDS), 4);
        x.drop(0);
        due("a root that holds nothing", x.kind(0), 0);
        x.drop(2);
        due("what was dropped is not needed", x.collect(false), 2);
    }

    private static void dropsOfNoRoots() {
        sentence("drop: IndexOutOfBoundsException: there is no root r.");
        LazyHeap x = ofNumbers(1);
        for (int r : WRONG_ROOTS) {
            dueThrowUnchanged(x, "drop(" + r + ")", NO_INDEX, () -> x.drop(r));
        }
    }

    // ---- promise 10: kind ----

    private static void kinds() {
        sentence("What root r holds: 0 nothing, 1 a number, 2 a pair, 3 a thunk; 4 more if it is old.");
        LazyHeap x = ofNumbers(1);
        x.pair(1, 0, 0);
        x.thunk(2, SUM, 0, 0);
        x.copy(3, 2);
        dueKinds(x, 1, 2, 3, 3, 0, 0, 0, 0);
        x.collect(false);
        dueKinds(x, 5, 6, 7, 7, 0, 0, 0, 0);
        x.force(3);
        dueKinds(x, 5, 6, 1, 1, 0, 0, 0, 0);
        x.collect(true);
        dueKinds(x, 5, 6, 5, 5, 0, 0, 0, 0);
    }

    private static void dueKinds(LazyHeap x, int... want) {
        for (int r = 0; r < 8; r++) {
            due("kind(" + r + ")", x.kind(r), want[r]);
        }
    }

    private static void kindsOfNoRoots() {
        sentence("kind: IndexOutOfBoundsException: there is no root r.");
        LazyHeap x = ofNumbers(1);
        for (int r : WRONG_ROOTS) {
            dueThrowUnchanged(x, "kind(" + r + ")", NO_INDEX, () -> x.kind(r));
        }
    }

    // ---- promise 11: value ----

    private static void values() {
        sentence("The number that root r holds.");
        for (int v : new int[] {0, 1, -1, Integer.MIN_VALUE, Integer.MAX_VALUE}) {
            LazyHeap x = ofNumbers(v);
            due("a young number", x.value(0), v);
            x.collect(false);
            due("an old number", x.value(0), v);
            x.collect(true);
            due("an old number, after a full collection", x.value(0), v);
        }
    }

    private static void valuesOfNothing() {
        sentence("value: IndexOutOfBoundsException: there is no root r, or it holds nothing");
        LazyHeap x = ofNumbers(1);
        dueThrowUnchanged(x, "value of nothing", NO_INDEX, () -> x.value(7));
        for (int r : WRONG_ROOTS) {
            dueThrowUnchanged(x, "value(" + r + ")", NO_INDEX, () -> x.value(r));
        }
    }

    private static void valuesOfNoNumbers() {
        sentence("value: IllegalArgumentException: it holds no number.");
        LazyHeap x = ofNumbers(-1);
        x.pair(1, 0, 0);
        x.thunk(2, SUM, 0, 0);
        dueThrowUnchanged(x, "value of a pair", NO_ARGUMENT, () -> x.value(1));
        dueThrowUnchanged(x, "value of a thunk", NO_ARGUMENT, () -> x.value(2));
        x.collect(false);
        dueThrowUnchanged(x, "value of an old pair", NO_ARGUMENT, () -> x.value(1));
        dueThrowUnchanged(x, "value of an old thunk", NO_ARGUMENT, () -> x.value(2));
    }

    // ---- promise 12: same ----

    private static void sames() {
        sentence("Whether roots a and b hold the same object (false when one holds nothing).");
        LazyHeap x = ofNumbers(1, 1);
        due("numbers alike", x.same(0, 1), false);
        due("a root and itself", x.same(0, 0), true);
        due("nothing and itself", x.same(7, 7), false);
        due("nothing and nothing", x.same(6, 7), false);
        due("nothing and a number", x.same(6, 0), false);
        due("a number and nothing", x.same(0, 6), false);
        x.thunk(2, SAME, 0, 0);
        x.copy(3, 2);
        due("a thunk and its a", x.same(2, 0), false);
        due("a thunk in two roots", x.same(2, 3), true);
        x.pair(4, 0, 0);
        x.pair(5, 0, 0);
        due("pairs alike", x.same(4, 5), false);
        x.copy(5, 4);
        for (int full = 0; full <= 1; full++) {
            x.collect(full == 1);
            due("a pair in two roots, after a collection", x.same(4, 5), true);
            due("a thunk in two roots, after a collection", x.same(2, 3), true);
            due("numbers alike, after a collection", x.same(0, 1), false);
        }
        x.force(2);
        due("a value that two roots hold", x.same(3, 0), true);
    }

    private static void samesOfNoRoots() {
        sentence("same: IndexOutOfBoundsException: there is no root a or b.");
        LazyHeap x = ofNumbers(1, 1);
        for (int r : WRONG_ROOTS) {
            dueThrowUnchanged(x, "same(" + r + ", 0)", NO_INDEX, () -> x.same(r, 0));
            dueThrowUnchanged(x, "same(0, " + r + ")", NO_INDEX, () -> x.same(0, r));
            dueThrowUnchanged(x, "same(" + r + ", 7)", NO_INDEX, () -> x.same(r, 7));
            dueThrowUnchanged(x, "same(7, " + r + ")", NO_INDEX, () -> x.same(7, r));
            dueThrowUnchanged(x, "same(" + r + ", " + r + ")", NO_INDEX, () -> x.same(r, r));
        }
    }

    // ---- promise 13: collect ----

    private static void collects() {
        sentence("A minor collection if there may be one (the words used are not more than 80 together),"
                + " or a full one when that is said: how many words old objects use then.");
        LazyHeap x = new LazyHeap();
        due("minor, no objects", x.collect(false), 0);
        due("full, no objects", x.collect(true), 0);
        dueCounts(x, "both count", 0, 0, 1, 1, 0, 0, 0);
        LazyHeap y = ofNumbers(1, 2, 3);
        y.drop(1);
        due("minor", y.collect(false), 4);
        dueCounts(y, "minor", 0, 4, 1, 0, 2, 0, 0);
        y.drop(2);
        y.number(3, 4);
        due("minor again", y.collect(false), 6);
        y.number(4, 5);
        due("full", y.collect(true), 6);
        dueCounts(y, "full", 0, 6, 2, 1, 3, 0, 0);
        due("values are kept", y.value(0) * 100 + y.value(3) * 10 + y.value(4), 145);
        LazyHeap z = ofNumbers(1);
        useOld(z, 42);
        useYoung(z, 38);
        due("minor at 80 words", z.collect(false), 42);
        useYoung(z, 40);
        due("full at 82 words", z.collect(true), 2);
    }

    private static void collectsThatMayNotBe() {
        sentence("collect: UnsupportedOperationException: there may be none, or it fails.");
        LazyHeap x = ofNumbers(1);
        useOld(x, 42);
        useYoung(x, 39);
        dueThrowUnchanged(x, "minor at 81 words", NO_ROOM, () -> x.collect(false));
        due("full at 81 words", x.collect(true), 2);
        LazyHeap y = ofNumbers(5, 6, 7);
        chainPairs(y, 3, 25);
        dueThrowUnchanged(y, "full of 81 live words", NO_ROOM, () -> y.collect(true));
        dueThrowUnchanged(y, "minor of 81 live words", NO_ROOM, () -> y.collect(false));
        y.drop(1);
        due("full of 79 live words", y.collect(true), 79);
    }

    // ---- promise 14: count ----

    private static void counts() {
        sentence("How many: 0 words used by young objects, 1 by old ones, 2 minor collections, 3 full ones (that"
                + " did not fail), 4 objects that became old in minor collections, 5 remembered objects, 6 thunks"
                + " that became links.");
        LazyHeap x = ofNumbers(1, 2);
        dueCounts(x, "two numbers", 4, 0, 0, 0, 0, 0, 0);
        x.thunk(2, SUM, 0, 1);
        dueCounts(x, "and a thunk", 8, 0, 0, 0, 0, 0, 0);
        x.collect(false);
        dueCounts(x, "grown old", 0, 8, 1, 0, 3, 0, 0);
        x.force(2);
        dueCounts(x, "forced", 2, 8, 1, 0, 3, 1, 1);
        x.number(3, 3);
        x.collect(true);
        dueCounts(x, "a full collection, in which others became old", 0, 8, 1, 1, 3, 0, 1);
        x.thunk(4, SAME, 2, 2);
        x.collect(false);
        x.force(4);
        dueCounts(x, "an old link to an old number", 0, 12, 2, 1, 4, 0, 2);
        LazyHeap y = ofNumbers(5, 6, 7);
        chainPairs(y, 3, 25);
        dueThrow("a full collection", NO_ROOM, () -> y.collect(true));
        due("full ones that failed do not count", y.count(FULL), 0);
        dueThrow("a minor collection", NO_ROOM, () -> y.collect(false));
        due("minor ones that may not be do not count", y.count(MINOR), 2);
        due("each became old once", y.count(GROWN_OLD), 27);
    }

    private static void countsOfNothing() {
        sentence("count: IllegalArgumentException: any other number.");
        LazyHeap x = ofNumbers(1, 2);
        for (int which : new int[] {-1, 7, 8, Integer.MIN_VALUE, Integer.MAX_VALUE}) {
            dueThrowUnchanged(x, "count(" + which + ")", NO_ARGUMENT, () -> x.count(which));
        }
    }

    public static void main(String[] args) {
        face();
        newObject();
        numbers();
        numbersInNoRoot();
        numbersWithoutRoom();
        pairs();
        pairsOfNothing();
        pairsWithoutRoom();
        thunks();
        thunksOfNothing();
        thunksOfNoOperation();
        thunksWithoutRoom();
        ties();
        tiesOfNothing();
        tiesOfNoThunks();
        forces();
        forcesOfNothing();
        forcesThatFail();
        parts();
        partsOfNothing();
        partsOfNoPairs();
        copies();
        copiesOfNoRoots();
        drops();
        dropsOfNoRoots();
        kinds();
        kindsOfNoRoots();
        values();
        valuesOfNothing();
        valuesOfNoNumbers();
        sames();
        samesOfNoRoots();
        collects();
        collectsThatMayNotBe();
        counts();
        countsOfNothing();
        end();
    }
}
