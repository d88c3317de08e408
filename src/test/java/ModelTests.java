import java.util.ArrayList;
import java.util.IdentityHashMap;
import java.util.List;
import java.util.Random;
import java.util.TreeSet;

/**
 * Runs of 512 calls, the same each time, on LazyHeap and on a second heap that follows the words of
 * the document: links are objects that are followed, and the spaces are lists of objects. The calls
 * that show all after each of them are more than the document promises; LazyHeap answers them too.
 */
public final class ModelTests {
    private static final int RUNS = 3000;
    private static final int CALLS = 512;

    private interface Heap {
        String answer(Call c);
    }

    private enum Kind { NUMBER, PAIR, THUNK, LINK }

    private enum Failure { ZERO, KIND, LOOP, ROOM }

    private static final class Failed extends Exception {
        private static final long serialVersionUID = 1L;
        final Failure by;

        Failed(Failure by) {
            super(null, null, false, false);
            this.by = by;
        }
    }

    private static final class Thing {
        Kind kind;
        int number;
        int operation;
        Thing a;
        Thing b;

        Thing(Kind kind) {
            this.kind = kind;
        }

        int size() {
            return kind == Kind.NUMBER ? 2 : kind == Kind.PAIR ? 3 : 4;
        }

        Thing meant() {
            return kind == Kind.LINK ? a : this;
        }
    }

    private static final class Model implements Heap {
        final Thing[] roots = new Thing[8];
        List<Thing> young = new ArrayList<>();
        List<Thing> old = new ArrayList<>();
        final List<Thing> remembered = new ArrayList<>();
        final List<Thing> running = new ArrayList<>();
        int minors;
        int fulls;
        int grown;
        int links;

        static int words(List<Thing> things) {
            int sum = 0;
            for (Thing t : things) {
                sum += t.size();
            }
            return sum;
        }

        Thing root(int r) {
            return roots[r] == null ? null : roots[r].meant();
        }

        Thing held(int r) {
            if (r < 0 || r > 7 || roots[r] == null) {
                throw new IndexOutOfBoundsException();
            }
            return root(r);
        }

        static void inRange(int r) {
            if (r < 0 || r > 7) {
                throw new IndexOutOfBoundsException();
            }
        }

        boolean mayBeMinor() {
            return words(young) + words(old) <= 80;
        }

        boolean makeRoom(int size) {
            if (words(young) + size <= 40) {
                return true;
            }
            if (mayBeMinor()) {
                minor();
                return true;
            }
            return full();
        }

        static void reach(Thing t, List<Thing> within, IdentityHashMap<Thing, Boolean> reached) {
            if (t == null) {
                return;
            }
            Thing m = t.meant();
            if (reached.containsKey(m) || within != null && !within.contains(m)) {
                return;
            }
            reached.put(m, true);
            reach(m.a, within, reached);
            reach(m.b, within, reached);
        }

        IdentityHashMap<Thing, Boolean> reached(List<Thing> within, List<Thing> more) {
            IdentityHashMap<Thing, Boolean> reached = new IdentityHashMap<>();
            for (Thing t : roots) {
                reach(t, within, reached);
            }
            for (Thing t : running) {
                reach(t, within, reached);
                reach(t.a, within, reached);
                reach(t.b, within, reached);
            }
            for (Thing t : more) {
                reach(t.a, within, reached);
                reach(t.b, within, reached);
            }
            return reached;
        }

        void skipLinks() {
            for (int r = 0; r < 8; r++) {
                roots[r] = root(r);
            }
            for (Thing t : old) {
                t.a = t.a == null ? null : t.a.meant();
                t.b = t.b == null ? null : t.b.meant();
            }
        }

        void minor() {
            IdentityHashMap<Thing, Boolean> needed = reached(young, remembered);
            for (Thing t : young) {
                if (needed.containsKey(t)) {
                    old.add(t);
                    grown++;
                }
            }
            young = new ArrayList<>();
            remembered.clear();
            minors++;
            skipLinks();
        }

        boolean full() {
            List<Thing> live = new ArrayList<>(reached(null, new ArrayList<>()).keySet());
            if (words(live) > 80) {
                return false;
            }
            old = live;
            young = new ArrayList<>();
            remembered.clear();
            fulls++;
            skipLinks();
            return true;
        }

        void changed(Thing t, Thing holds) {
            if (old.contains(t) && young.contains(holds) && !remembered.contains(t)) {
                remembered.add(t);
            }
        }

        Thing evaluate(Thing t) throws Failed {
            Thing m = t.meant();
            if (m.kind != Kind.THUNK) {
                return m;
            }
            if (running.contains(m) || running.size() == 12) {
                throw new Failed(Failure.LOOP);
            }
            running.add(m);
            Thing v;
            try {
                v = run(m);
            } finally {
                running.remove(running.size() - 1);
            }
            m.kind = Kind.LINK;
            m.a = v;
            m.b = null;
            links++;
            changed(m, v);
            return v;
        }

        Thing run(Thing t) throws Failed {
            if (t.operation == 7) {
                try {
                    return evaluate(t.a);
                } catch (Failed e) {
                    if (e.by == Failure.LOOP || e.by == Failure.ROOM) {
                        throw e;
                    }
                }
                return evaluate(t.b);
            }
            Thing a = evaluate(t.a);
            if (t.operation == 8) {
                return a;
            }
            if (t.operation == 4 || t.operation == 5) {
                if (a.kind == Kind.NUMBER) {
                    throw new Failed(Failure.KIND);
                }
                return evaluate(t.operation == 4 ? a.a : a.b);
            }
            Thing b = evaluate(t.b);
            if (t.operation == 6) {
                if (a.kind == Kind.PAIR || b.kind == Kind.NUMBER) {
                    throw new Failed(Failure.KIND);
                }
                return evaluate(a.number != 0 ? b.a : b.b);
            }
            if (a.kind == Kind.PAIR || b.kind == Kind.PAIR) {
                throw new Failed(Failure.KIND);
            }
            if (t.operation == 3 && b.number == 0) {
                throw new Failed(Failure.ZERO);
            }
            if (!makeRoom(2)) {
                throw new Failed(Failure.ROOM);
            }
            Thing n = new Thing(Kind.NUMBER);
            long x = a.number;
            long y = b.number;
            n.number = (int) (t.operation == 0 ? x + y : t.operation == 1 ? x - y : t.operation == 2 ? x * y : x / y);
            young.add(n);
            return n;
        }

        int make(int r, Kind kind, int data, int a, int b) {
            inRange(r);
            if (kind != Kind.NUMBER) {
                held(a);
                held(b);
            }
            if (kind == Kind.THUNK && (data < 0 || data > 8)) {
                throw new IllegalArgumentException();
            }
            Thing t = new Thing(kind);
            if (!makeRoom(t.size())) {
                throw new UnsupportedOperationException();
            }
            t.number = data;
            t.operation = data;
            if (kind != Kind.NUMBER) {
                t.a = root(a);
                t.b = root(b);
            }
            young.add(t);
            roots[r] = t;
            return words(young);
        }

        void tie(int r, int b) {
            Thing t = held(r);
            Thing held = held(b);
            if (t.kind != Kind.THUNK) {
                throw new IllegalArgumentException();
            }
            t.b = held;
            changed(t, held);
        }

        int force(int r) {
            Thing t = held(r);
            try {
                roots[r] = evaluate(t);
            } catch (Failed e) {
                switch (e.by) {
                    case ZERO:
                        throw new ArithmeticException();
                    case KIND:
                        throw new IllegalArgumentException();
                    case LOOP:
                        throw new IllegalStateException();
                    default:
                        throw new UnsupportedOperationException();
                }
            }
            return kind(r) % 4;
        }

        void part(int to, int r, boolean second) {
            inRange(to);
            Thing t = held(r);
            if (t.kind != Kind.PAIR) {
                throw new IllegalArgumentException();
            }
            roots[to] = second ? t.b : t.a;
        }

        int kind(int r) {
            inRange(r);
            Thing t = root(r);
            return t == null ? 0 : t.kind.ordinal() + 1 + (old.contains(t) ? 4 : 0);
        }

        int value(int r) {
            Thing t = held(r);
            if (t.kind != Kind.NUMBER) {
                throw new IllegalArgumentException();
            }
            return t.number;
        }

        boolean same(int a, int b) {
            inRange(a);
            inRange(b);
            return root(a) != null && root(a) == root(b);
        }

        int collect(boolean full) {
            if (!full && !mayBeMinor() || full && !full()) {
                throw new UnsupportedOperationException();
            }
            if (!full) {
                minor();
            }
            return words(old);
        }

        int count(int which) {
            int[] counts = {words(young), words(old), minors, fulls, grown, remembered.size(), links};
            if (which < 0 || which > 6) {
                throw new IllegalArgumentException();
            }
            return counts[which];
        }

        void copy(int to, int r) {
            inRange(to);
            inRange(r);
            roots[to] = roots[r];
        }

        void drop(int r) {
            inRange(r);
            roots[r] = null;
        }

        @Override
        public String answer(Call c) {
            switch (c.name) {
                case "number": return "" + make(c.i, Kind.NUMBER, c.j, 0, 0);
                case "pair": return "" + make(c.i, Kind.PAIR, 0, c.j, c.k);
                case "thunk": return "" + make(c.i, Kind.THUNK, c.j, c.k, c.l);
                case "tie": tie(c.i, c.j); return "done";
                case "force": return "" + force(c.i);
                case "part": part(c.i, c.j, c.k == 1); return "done";
                case "copy": copy(c.i, c.j); return "done";
                case "drop": drop(c.i); return "done";
                case "kind": return "" + kind(c.i);
                case "value": return "" + value(c.i);
                case "same": return "" + same(c.i, c.j);
                case "collect": return "" + collect(c.i == 1);
                default: return "" + count(c.i);
            }
        }
    }

    private static final class Tested implements Heap {
        final LazyHeap x = new LazyHeap();

        @Override
        public String answer(Call c) {
            switch (c.name) {
                case "number": return "" + x.number(c.i, c.j);
                case "pair": return "" + x.pair(c.i, c.j, c.k);
                case "thunk": return "" + x.thunk(c.i, c.j, c.k, c.l);
                case "tie": x.tie(c.i, c.j); return "done";
                case "force": return "" + x.force(c.i);
                case "part": x.part(c.i, c.j, c.k == 1); return "done";
                case "copy": x.copy(c.i, c.j); return "done";
                case "drop": x.drop(c.i); return "done";
                case "kind": return "" + x.kind(c.i);
                case "value": return "" + x.value(c.i);
                case "same": return "" + x.same(c.i, c.j);
                case "collect": return "" + x.collect(c.i == 1);
                default: return "" + x.count(c.i);
            }
        }
    }

    /** One call's name and arguments, as many as it takes. */
    private static final class Call {
        final String name;
        final int i;
        final int j;
        final int k;
        final int l;

        Call(String name, int i, int j, int k, int l) {
            this.name = name;
            this.i = i;
            this.j = j;
            this.k = k;
            this.l = l;
        }

        @Override
        public String toString() {
            return name + "(" + i + ", " + j + ", " + k + ", " + l + ")";
        }
    }

    private static final String[] OTHERS = {
        "part", "part", "copy", "copy", "drop", "tie", "tie", "kind", "value", "same", "collect", "count"};

    /** How each kind of call ended in some run: all ways there are must be among them. */
    private static final TreeSet<String> ENDS = new TreeSet<>();

    private static String answer(Heap heap, Call c) {
        try {
            return heap.answer(c);
        } catch (RuntimeException e) {
            return e.getClass().getSimpleName();
        }
    }

    /** All that answers show without changing it: the counts, and what the roots hold. */
    private static String shown(Heap heap) {
        StringBuilder text = new StringBuilder();
        for (int which = 0; which < 7; which++) {
            text.append(' ').append(answer(heap, new Call("count", which, 0, 0, 0)));
        }
        for (int r = 0; r < 8; r++) {
            String kind = answer(heap, new Call("kind", r, 0, 0, 0));
            text.append(' ').append(kind);
            if (kind.equals("1") || kind.equals("5")) {
                text.append('=').append(answer(heap, new Call("value", r, 0, 0, 0)));
            }
            for (int s = 0; s < r; s++) {
                text.append(answer(heap, new Call("same", r, s, 0, 0)).charAt(0));
            }
        }
        return text.toString();
    }

    private static int someRoot(Random random, int roots) {
        return random.nextInt(400) == 0 ? random.nextInt(12) - 2 : random.nextInt(roots);
    }

    private static int someNumber(Random random) {
        return random.nextInt(8) == 0 ? random.nextInt() : random.nextInt(5) - 2;
    }

    private static int someOperation(Random random) {
        return random.nextInt(100) == 0 ? random.nextInt(20) - 5 : random.nextInt(9);
    }

    private static Call someMaking(Random random, int roots) {
        int r = someRoot(random, roots);
        int a = someRoot(random, roots);
        int b = someRoot(random, roots);
        int dice = random.nextInt(8);
        if (dice < 2) {
            return new Call("number", r, someNumber(random), 0, 0);
        }
        return dice < 4 ? new Call("pair", r, a, b, 0) : new Call("thunk", r, someOperation(random), a, b);
    }

    private static Call someOther(Random random, int roots) {
        int i = someRoot(random, roots);
        int j = someRoot(random, roots);
        String name = OTHERS[random.nextInt(OTHERS.length)];
        if (name.equals("collect")) {
            return new Call(name, random.nextInt(2), 0, 0, 0);
        }
        return new Call(name, i, j, random.nextInt(2), 0);
    }

    private static Call someCall(Random random, int roots, int makings, int forces) {
        int dice = random.nextInt(100);
        if (dice < makings) {
            return someMaking(random, roots);
        }
        return dice < makings + forces
                ? new Call("force", someRoot(random, roots), 0, 0, 0)
                : someOther(random, roots);
    }

    private static boolean runIsAsDue(int run) {
        Random random = new Random(run);
        int roots = 3 + random.nextInt(6);
        int makings = 30 + random.nextInt(45);
        int forces = random.nextInt(25);
        Heap tested = new Tested();
        Heap model = new Model();
        boolean crowded = false;
        for (int n = 0; n < CALLS; n++) {
            // A run that has no room left would show little else from then on.
            Call c = n < roots ? new Call("number", n, n, 0, 0)
                    : crowded && random.nextInt(3) == 0 ? new Call("drop", someRoot(random, roots), 0, 0, 0)
                    : someCall(random, roots, makings, forces);
            String want = answer(model, c);
            String got = answer(tested, c);
            String wantShown = shown(model);
            String gotShown = shown(tested);
            if (!got.equals(want) || !gotShown.equals(wantShown)) {
                System.out.println("run " + run + ", call " + n + ": " + c + " answered " + got + " and shows"
                        + gotShown + ", due is " + want + " and" + wantShown);
                return false;
            }
            crowded = want.equals("UnsupportedOperationException");
            ENDS.add(c.name + (want.endsWith("Exception") ? " " + want : ""));
        }
        return true;
    }

    public static void main(String[] args) {
        int wrong = 0;
        for (int run = 0; run < RUNS; run++) {
            if (!runIsAsDue(run)) {
                wrong++;
            }
        }
        // 13 calls that answer, and the 24 exceptions that their headings list.
        if (wrong == 0 && ENDS.size() != 13 + 24) {
            wrong++;
            System.out.println("the runs show " + ENDS.size() + " ways for a call to end: " + ENDS);
        }
        System.out.println(wrong == 0 ? RUNS + " runs are as due" : wrong + " faults");
        if (wrong != 0) {
            System.exit(1);
        }
    }
}
