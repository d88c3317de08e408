/** What the tests share: heaps to begin with, and answers compared with those that are due. */
abstract class Checks {
    static final int SUM = 0;
    static final int DIFFERENCE = 1;
    static final int PRODUCT = 2;
    static final int QUOTIENT = 3;
    static final int FIRST = 4;
    static final int SECOND = 5;
    static final int CHOICE = 6;
    static final int RESCUE = 7;
    static final int SAME = 8;

    static final int YOUNG_WORDS = 0;
    static final int OLD_WORDS = 1;
    static final int MINOR = 2;
    static final int FULL = 3;
    static final int GROWN_OLD = 4;
    static final int REMEMBERED = 5;
    static final int LINKED = 6;

    static final String NO_INDEX = "IndexOutOfBoundsException";
    static final String NO_ARGUMENT = "IllegalArgumentException";
    static final String NO_STATE = "IllegalStateException";
    static final String NO_ARITHMETIC = "ArithmeticException";
    static final String NO_ROOM = "UnsupportedOperationException";

    static final int[] WRONG_ROOTS = {-1, 8, 9, Integer.MIN_VALUE, Integer.MAX_VALUE};

    private static int checks = 0;
    private static int wrong = 0;
    private static String sentence = "";

    interface Call {
        void run();
    }

    /** The words of the document for which the checks from here on stand. */
    static void sentence(String words) {
        sentence = words;
    }

    static void due(String what, long got, long want) {
        checks++;
        if (got != want) {
            fault(what + " answered " + got + ", due is " + want);
        }
    }

    static void due(String what, boolean got, boolean want) {
        checks++;
        if (got != want) {
            fault(what + " answered " + got + ", due is " + want);
        }
    }

    static void due(String what, String got, String want) {
        checks++;
        if (!got.equals(want)) {
            fault(what + " is " + got + ", due is " + want);
        }
    }

    private static void fault(String text) {
        wrong++;
        System.out.println("'" + sentence + "': " + text);
    }

    static void dueThrow(String what, String want, Call call) {
        due("what " + what + " throws", thrown(call), want);
    }

    static void dueThrowUnchanged(LazyHeap x, String what, String want, Call call) {
        String before = shown(x);
        dueThrow(what, want, call);
        due("what is shown after " + what, shown(x), before);
    }

    static void dueCounts(LazyHeap x, String what, int... counts) {
        for (int which = 0; which < counts.length; which++) {
            due(what + ", count(" + which + ")", x.count(which), counts[which]);
        }
    }

    static String thrown(Call call) {
        try {
            call.run();
        } catch (RuntimeException e) {
            return e.getClass().getSimpleName();
        }
        return "nothing";
    }

    /** Everything that the answers show of a heap without changing it. */
    static String shown(LazyHeap x) {
        StringBuilder text = new StringBuilder();
        for (int which = 0; which <= 6; which++) {
            text.append(x.count(which)).append(' ');
        }
        for (int r = 0; r < 8; r++) {
            int kind = x.kind(r);
            text.append(kind).append(kind == 1 || kind == 5 ? "=" + x.value(r) : "").append(' ');
            for (int s = 0; s < r; s++) {
                text.append(x.same(r, s) ? '1' : '0');
            }
        }
        return text.toString();
    }

    static void end() {
        System.out.println(wrong == 0 ? checks + " answers are as due" : wrong + " answers are not as due");
        if (wrong != 0) {
            System.exit(1);
        }
    }

    // ---- heaps to begin with ----

    /** The numbers in roots 0, 1, 2 and so on. */
    static LazyHeap ofNumbers(int... values) {
        LazyHeap x = new LazyHeap();
        for (int r = 0; r < values.length; r++) {
            x.number(r, values[r]);
        }
        return x;
    }

    /** Thunks over what root a holds, each the a of the next one: root r holds the last. */
    static void chainThunks(LazyHeap x, int r, int a, int length) {
        x.thunk(r, SAME, a, a);
        for (int made = 1; made < length; made++) {
            x.thunk(r, SAME, r, r);
        }
    }

    /** Pairs that hold one another, of 3 words each: root r holds the last, and needs all. */
    static void chainPairs(LazyHeap x, int r, int length) {
        x.pair(r, 0, 0);
        for (int made = 1; made < length; made++) {
            x.pair(r, r, 0);
        }
    }

    /** Young objects that nothing holds, until so many words are used. */
    static void useYoung(LazyHeap x, int words) {
        if ((words - x.count(YOUNG_WORDS)) % 2 != 0) {
            x.pair(7, 0, 0);
        }
        for (int made = 0; made < 20 && x.count(YOUNG_WORDS) < words; made++) {
            x.number(7, 0);
        }
        x.drop(7);
        due("young words to begin with", x.count(YOUNG_WORDS), words);
    }

    /** Makes all old that is held, and then old objects that nothing holds. */
    static void useOld(LazyHeap x, int words) {
        x.collect(false);
        if ((words - x.count(OLD_WORDS)) % 2 != 0) {
            x.pair(7, 0, 0);
            x.collect(false);
        }
        for (int made = 0; made < 40 && x.count(OLD_WORDS) < words; made++) {
            x.number(7, 0);
            x.collect(false);
        }
        x.drop(7);
        due("old words to begin with", x.count(OLD_WORDS), words);
    }

    /** Pairs that root 1 needs, and a number in root 7, until there is no room for either. */
    static void crowd(LazyHeap x) {
        x.pair(1, 0, 0);
        repeatUntilThrown(() -> x.pair(1, 1, 0));
        repeatUntilThrown(() -> x.number(7, 0));
        due("what a number without room throws", thrown(() -> x.number(7, 0)), NO_ROOM);
    }

    private static void repeatUntilThrown(Call call) {
        String end = "nothing";
        for (int done = 0; done < 60 && end.equals("nothing"); done++) {
            end = thrown(call);
        }
    }
}
