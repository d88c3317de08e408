/**
 * The sentences of '## Terms' on spaces, room, collections, what is remembered, and what is thrown:
 * each has a test of its own, which begins with its words.
 */
public final class CollectionTests extends Checks {
    // ---- spaces ----

    private static void madeYoung() {
        sentence("an object is YOUNG or OLD; it is made young.");
        LazyHeap x = new LazyHeap();
        x.number(0, 1);
        x.pair(1, 0, 0);
        x.thunk(2, SUM, 0, 0);
        due("kinds when made", x.kind(0) * 100 + x.kind(1) * 10 + x.kind(2), 123);
        x.collect(false);
        due("kinds when old", x.kind(0) * 100 + x.kind(1) * 10 + x.kind(2), 567);
        x.pair(3, 0, 1);
        x.thunk(4, SUM, 0, 0);
        due("kinds when made of old ones", x.kind(3) * 10 + x.kind(4), 23);
        x.force(2);
        due("kind of what an old thunk made", x.kind(2), 1);
    }

    private static final String YOUNG_ROOM = "There is room for 40 words of young and 80 of old objects.";

    /** The number 1 in root 0, a sum of it in root 1, and so many young words used in all. */
    private static LazyHeap withYoungWords(int words) {
        LazyHeap x = ofNumbers(1);
        x.thunk(1, SUM, 0, 0);
        useYoung(x, words);
        return x;
    }

    private static void roomForYoungObjects() {
        sentence(YOUNG_ROOM);
        due("a number at 38 words", withYoungWords(38).number(2, 1), 40);
        due("a number at 39 words", withYoungWords(39).number(2, 1), 2);
        due("a number at 40 words", withYoungWords(40).number(2, 1), 2);
        due("a pair at 37 words", withYoungWords(37).pair(2, 0, 0), 40);
        due("a pair at 38 words", withYoungWords(38).pair(2, 0, 0), 3);
        due("a pair at 39 words", withYoungWords(39).pair(2, 0, 0), 3);
        due("a thunk at 36 words", withYoungWords(36).thunk(2, SUM, 0, 0), 40);
        due("a thunk at 37 words", withYoungWords(37).thunk(2, SUM, 0, 0), 4);
        due("a thunk at 38 words", withYoungWords(38).thunk(2, SUM, 0, 0), 4);
        for (int words = 38; words <= 40; words++) {
            LazyHeap x = withYoungWords(words);
            due("a sum at " + words + " words", x.force(1), 1);
            due("young words then", x.count(YOUNG_WORDS), words == 38 ? 40 : 2);
            due("minor collections then", x.count(MINOR), words == 38 ? 0 : 1);
            due("value", x.value(1), 2);
        }
    }

    private static void roomForOldObjects() {
        sentence(YOUNG_ROOM);
        LazyHeap x = ofNumbers(1);
        useOld(x, 78);
        x.number(2, 5);
        due("the 80th old word", x.collect(false), 80);
        due("a minor collection of 80 words and none", x.collect(false), 80);
        x.number(3, 6);
        dueThrowUnchanged(x, "a minor collection of 82 words", NO_ROOM, () -> x.collect(false));
        due("a full one", x.collect(true), 6);
        LazyHeap y = ofNumbers(1);
        chainPairs(y, 1, 26);
        due("a full one of 80 words that are all live", y.collect(true), 80);
        due("a minor one then", y.collect(false), 80);
    }

    private static void bothSpacesFull() {
        sentence(YOUNG_ROOM);
        LazyHeap x = ofNumbers(100, 101, 102, 103);
        useOld(x, 80);
        for (int made = 0; made < 20; made++) {
            x.number(4 + made % 4, made);
        }
        dueCounts(x, "60 numbers", 40, 80);
        for (int r = 0; r < 4; r++) {
            due("the first of them", x.value(r), 100 + r);
            due("the last of them", x.value(4 + r), 16 + r);
        }
    }

    private static void usedWords() {
        sentence("(all that were made or kept since they were emptied last, also when nothing holds them any more)");
        LazyHeap x = ofNumbers(1, 2);
        x.drop(1);
        due("after a drop", x.count(YOUNG_WORDS), 4);
        x.number(0, 3);
        due("after another number in the root", x.count(YOUNG_WORDS), 6);
        x.thunk(1, SAME, 0, 0);
        x.force(1);
        due("after a thunk became a link", x.count(YOUNG_WORDS), 10);
        useYoung(x, 40);
        due("when all is used", x.number(7, 1), 2);
        due("what was kept is old", x.count(OLD_WORDS), 2);
        x.drop(0);
        x.drop(1);
        due("old words after drops", x.count(OLD_WORDS), 2);
        due("and after a minor collection", x.collect(false), 4);
    }

    // ---- to make room ----

    private static final String WHICH_COLLECTION = "a MINOR one if the words used by young objects and those"
            + " used by old ones are not more than 80, otherwise a FULL one.";

    /** As withYoungWords, but old words too; only 6 words are live, and those are old. */
    private static LazyHeap withWords(int young, int old) {
        LazyHeap x = ofNumbers(1);
        x.thunk(1, SUM, 0, 0);
        useOld(x, old);
        useYoung(x, young);
        return x;
    }

    private static void whichCollection() {
        sentence(WHICH_COLLECTION);
        for (int young = 39; young <= 40; young++) {
            for (int more = 0; more <= 1; more++) {
                int old = 80 - young + more;
                String what = " at " + young + " young and " + old + " old words";
                LazyHeap x = withWords(young, old);
                due("a number" + what, x.number(2, 1), 2);
                dueCollected(x, what, more == 1, old);
                LazyHeap y = withWords(young, old);
                due("a pair" + what, y.pair(2, 0, 0), 3);
                dueCollected(y, what, more == 1, old);
                LazyHeap z = withWords(young, old);
                due("a thunk" + what, z.thunk(2, SUM, 0, 0), 4);
                dueCollected(z, what, more == 1, old);
                LazyHeap f = withWords(young, old);
                due("a sum" + what, f.force(1), 1);
                dueCollected(f, what, more == 1, old);
            }
        }
    }

    private static void dueCollected(LazyHeap x, String what, boolean full, int old) {
        due("full collections" + what, x.count(FULL), full ? 1 : 0);
        due("old words then" + what, x.count(OLD_WORDS), full ? 6 : old);
    }

    private static void noCollectionWhenThereIsRoom() {
        sentence("if the words USED by young objects (..) and its size are more than 40, there is a collection");
        LazyHeap x = withWords(38, 80);
        int minors = x.count(MINOR);
        due("a number at 38 young and 80 old words", x.number(2, 1), 40);
        due("minor collections", x.count(MINOR), minors);
        due("full collections", x.count(FULL), 0);
        due("a number at 40 young and 80 old words", x.number(2, 1), 2);
        due("full collections", x.count(FULL), 1);
    }

    private static void neededWhileRoomIsMade() {
        sentence("TO MAKE ROOM for an object");
        LazyHeap x = ofNumbers(1, 2);
        useYoung(x, 40);
        x.number(0, 3);
        due("what the root held before is kept still", x.count(OLD_WORDS), 4);
        LazyHeap y = ofNumbers(1, 2);
        useYoung(y, 40);
        y.pair(0, 0, 1);
        y.part(2, 0, false);
        due("a pair of what was kept", y.value(2) * 10 + y.kind(2), 15);
        LazyHeap z = ofNumbers(1, 2);
        useYoung(z, 40);
        z.thunk(0, DIFFERENCE, 0, 1);
        due("a thunk of what was kept", z.force(0) * 10 + z.value(0), 9);
    }

    private static final String NO_ROOM_LEFT = "If a full one fails, there is no room.";

    private static void noRoomLeft() {
        sentence(NO_ROOM_LEFT);
        LazyHeap x = liveWords(81);
        useYoung(x, 39);
        due("old words", x.count(OLD_WORDS), 78);
        dueThrowUnchanged(x, "a number at 81 live words", NO_ROOM, () -> x.number(6, 1));
        dueThrowUnchanged(x, "a pair at 81 live words", NO_ROOM, () -> x.pair(6, 0, 0));
        dueThrowUnchanged(x, "a thunk at 81 live words", NO_ROOM, () -> x.thunk(6, SUM, 0, 0));
        dueThrowUnchanged(x, "a sum at 81 live words", NO_ROOM, () -> x.force(2));
        x.part(1, 1, false);
        due("a number at 78 live words", x.number(6, 1), 2);
        due("full collections", x.count(FULL), 1);
        due("old words", x.count(OLD_WORDS), 78);
        dueRoomLeft();
    }

    private static void dueRoomLeft() {
        LazyHeap x = liveWords(80);
        useYoung(x, 39);
        due("a number at 80 live words", x.number(6, 1), 2);
        due("old words", x.count(OLD_WORDS), 80);
        LazyHeap y = liveWords(80);
        useYoung(y, 39);
        due("a pair at 80 live words", y.pair(6, 0, 0), 3);
        due("old words", y.count(OLD_WORDS), 80);
        LazyHeap z = liveWords(80);
        useYoung(z, 39);
        due("a thunk at 80 live words", z.thunk(6, SUM, 0, 0), 4);
        due("old words", z.count(OLD_WORDS), 80);
        LazyHeap f = liveWords(80);
        useYoung(f, 39);
        due("a sum at 80 live words", f.force(2), 1);
        due("old words", f.count(OLD_WORDS), 80);
    }

    /** 80 or 81 words that are all live, some of them young: numbers, a sum in root 2, and pairs in root 1. */
    private static LazyHeap liveWords(int words) {
        LazyHeap x = ofNumbers(5);
        x.thunk(2, SUM, 0, 0);
        if (words == 80) {
            x.number(3, 6);
        }
        chainPairs(x, 1, words == 80 ? 24 : 25);
        due("words that are live", x.count(YOUNG_WORDS) + x.count(OLD_WORDS), words);
        return x;
    }

    // ---- a minor collection ----

    private static final String NEEDED = "the young objects that are needed are those held by roots, by running"
            + " thunks, and by old objects that are REMEMBERED, and those held by young objects that are needed";

    private static void heldByRoots() {
        sentence(NEEDED);
        LazyHeap x = new LazyHeap();
        for (int r = 0; r < 8; r++) {
            x.number(r, r);
        }
        due("one in each root", x.collect(false), 16);
        for (int r = 0; r < 8; r++) {
            due("kind(" + r + ")", x.kind(r), 5);
            due("value(" + r + ")", x.value(r), r);
        }
        x.number(3, 7);
        x.copy(4, 3);
        due("one in two roots counts once", x.collect(false), 18);
        due("both hold it still", x.same(3, 4), true);
    }

    private static void heldByRunningThunks() {
        sentence(NEEDED);
        dueKeptForRunningThunks(false);
        dueKeptForRunningThunks(true);
    }

    private static void dueKeptForRunningThunks(boolean full) {
        LazyHeap x = ofNumbers(1, 2);
        x.thunk(2, SUM, 0, 1);
        x.thunk(3, PRODUCT, 0, 1);
        x.thunk(4, DIFFERENCE, 2, 3);
        for (int r = 0; r < 4; r++) {
            x.drop(r);
        }
        x.number(0, 9);
        if (full) {
            useOld(x, 80);
        }
        useYoung(x, 38);
        due("a difference, of which the second number needs room", x.force(4), 1);
        due("value", x.value(4), 1);
        due("minor or full collections", x.count(full ? FULL : MINOR), 1);
        // The numbers 1, 2, 9 and 3, and the two thunks that are running; the sum is a link by then.
        due("old words", x.count(OLD_WORDS), 16);
    }

    private static void heldByRememberedObjects() {
        sentence(NEEDED);
        LazyHeap x = ofNumbers(1);
        x.thunk(1, SUM, 0, 0);
        x.collect(false);
        x.number(2, 7);
        x.pair(3, 2, 2);
        x.tie(1, 3);
        x.drop(1);
        x.drop(2);
        x.drop(3);
        due("also when nothing holds the old object", x.collect(false), 11);
        LazyHeap y = ofNumbers(1);
        y.thunk(1, SUM, 0, 0);
        y.collect(false);
        y.number(2, 7);
        y.tie(1, 2);
        y.tie(1, 0);
        y.drop(2);
        due("what it held, but does not hold any more, is not needed", y.collect(false), 6);
        LazyHeap z = ofNumbers(1);
        z.thunk(1, SUM, 0, 0);
        z.pair(2, 1, 1);
        z.collect(false);
        z.force(1);
        z.drop(1);
        due("the value of an old link", z.collect(false), 11);
        z.part(1, 2, true);
        due("which an old pair holds now", z.kind(1) * 10 + z.value(1), 52);
    }

    private static void heldByNeededObjects() {
        sentence(NEEDED);
        LazyHeap x = ofNumbers(1, 2);
        x.pair(2, 0, 1);
        x.thunk(3, SUM, 2, 0);
        x.pair(4, 3, 3);
        for (int r = 0; r < 4; r++) {
            x.drop(r);
        }
        due("pairs, thunks and numbers, each behind another", x.collect(false), 14);
        LazyHeap y = ofNumbers(1);
        y.thunk(1, SUM, 0, 0);
        y.pair(2, 1, 0);
        y.tie(1, 2);
        y.drop(0);
        y.drop(1);
        due("objects that hold one another", y.collect(false), 9);
        due("each became old once", y.count(GROWN_OLD), 3);
    }

    private static void youngLinks() {
        sentence("those of them that are no links become old.");
        LazyHeap x = ofNumbers(1);
        x.thunk(1, SUM, 0, 0);
        x.copy(2, 1);
        x.pair(3, 1, 1);
        x.force(1);
        due("young words", x.count(YOUNG_WORDS), 11);
        due("the link is gone", x.collect(false), 7);
        due("objects that became old", x.count(GROWN_OLD), 3);
        x.part(4, 3, true);
        due("all hold the value", x.same(4, 2), true);
        due("which is old", x.kind(2), 5);
    }

    private static void othersAreGone() {
        sentence("All other young objects are gone; nothing is remembered any more.");
        LazyHeap x = ofNumbers(1, 2, 3);
        x.pair(4, 1, 2);
        x.thunk(5, SUM, 0, 0);
        x.drop(1);
        x.drop(4);
        due("what nothing holds", x.collect(false), 8);
        dueCounts(x, "then", 0, 8, 1, 0, 3, 0, 0);
        x.drop(2);
        due("old ones stay, though nothing holds them", x.collect(false), 8);
        x.number(1, 4);
        x.tie(5, 1);
        due("remembered", x.count(REMEMBERED), 1);
        x.collect(false);
        due("remembered after a minor collection", x.count(REMEMBERED), 0);
        LazyHeap y = ofNumbers(1);
        y.thunk(1, SUM, 0, 0);
        y.pair(2, 1, 1);
        y.tie(1, 2);
        y.drop(1);
        y.drop(2);
        due("ones that only hold one another", y.collect(false), 2);
    }

    private static void nothingIsLeftOfThem() {
        sentence("All other young objects are gone");
        for (int full = 0; full <= 1; full++) {
            LazyHeap x = ofNumbers(1, 2);
            x.pair(2, 0, 1);
            x.pair(3, 1, 0);
            for (int r = 0; r < 4; r++) {
                x.drop(r);
            }
            due("all are gone", x.collect(full == 1), 0);
            // Where a program keeps the new numbers in the places of the old ones and of the pairs.
            for (int r = 0; r < 4; r++) {
                x.number(r, r);
            }
            x.drop(0);
            x.drop(1);
            due("new numbers hold nothing of what was there before", x.collect(false), 4);
            due("values", x.value(2) * 10 + x.value(3), 23);
        }
    }

    private static void manyCollections() {
        sentence("An object is used for at most 512 calls after it has been made");
        LazyHeap x = new LazyHeap();
        for (int made = 0; made < 500; made++) {
            x.number(made % 8, made);
        }
        for (int r = 0; r < 8; r++) {
            due("value(" + r + ") after 500 numbers", x.value(r), r < 4 ? 496 + r : 488 + r);
        }
        LazyHeap y = ofNumbers(1, 0);
        for (int made = 0; made < 250; made++) {
            y.thunk(1, SUM, 1, 0);
            y.force(1);
        }
        due("value after 250 sums", y.value(1), 250);
        due("links", y.count(LINKED), 250);
        LazyHeap z = ofNumbers(1, 2);
        for (int made = 0; made < 250; made++) {
            z.pair(2 + made % 3, 0, 1);
            z.part(5 + made % 3, 2 + made % 3, made % 2 == 0);
        }
        due("parts after 250 pairs", z.value(5) * 100 + z.value(6) * 10 + z.value(7), 112);
        due("live words", z.collect(true), 13);
    }

    // ---- a full collection ----

    private static void liveObjects() {
        sentence("LIVE are the objects held by roots and by running thunks, and those held by live ones (links apart).");
        LazyHeap x = ofNumbers(1, 2);
        x.thunk(2, SUM, 0, 1);
        x.pair(3, 2, 2);
        x.collect(false);
        x.number(4, 3);
        x.tie(2, 4);
        x.drop(0);
        x.drop(1);
        x.drop(2);
        x.drop(4);
        due("young and old ones, each behind another", x.collect(true), 11);
        x.part(2, 3, true);
        due("value", x.force(2) * 10 + x.value(2), 14);
        LazyHeap y = ofNumbers(1);
        y.thunk(1, SUM, 0, 0);
        y.collect(false);
        y.number(2, 7);
        y.tie(1, 2);
        y.drop(1);
        y.drop(2);
        due("what is remembered holds nothing live", y.collect(true), 2);
    }

    private static void linksAreNotLive() {
        sentence("(links apart)");
        LazyHeap x = ofNumbers(1);
        x.thunk(4, SAME, 0, 0);
        x.pair(5, 4, 4);
        chainPairs(x, 1, 25);
        due("words", x.count(YOUNG_WORDS) + x.count(OLD_WORDS), 84);
        dueThrowUnchanged(x, "84 words that are live", NO_ROOM, () -> x.collect(true));
        x.force(4);
        due("80 words without the link", x.collect(true), 80);
        x.part(6, 5, false);
        due("the pair holds the value", x.same(6, 0), true);
    }

    private static void tooManyLiveWords() {
        sentence("If their words are more than 80, it fails, and nothing changes.");
        due("80 words", liveWords(80).collect(true), 80);
        LazyHeap x = liveWords(81);
        x.tie(2, 1);
        due("remembered", x.count(REMEMBERED), 1);
        dueThrowUnchanged(x, "81 words", NO_ROOM, () -> x.collect(true));
        due("still remembered", x.count(REMEMBERED), 1);
        x.part(1, 1, false);
        due("the tied pair is live still", thrown(() -> x.collect(true)), NO_ROOM);
        x.tie(2, 0);
        due("78 words", x.collect(true), 78);
        due("the sum is as before", x.force(2) * 100 + x.value(2), 110);
    }

    private static void allAreOld() {
        sentence("Otherwise all live ones are old, all other objects are gone, and nothing is remembered any more.");
        LazyHeap x = ofNumbers(1, 2);
        x.thunk(2, SUM, 0, 0);
        x.collect(false);
        x.number(3, 4);
        x.pair(4, 3, 0);
        x.number(5, 5);
        x.tie(2, 3);
        x.drop(1);
        x.drop(5);
        due("remembered before", x.count(REMEMBERED), 1);
        due("live words", x.collect(true), 11);
        dueCounts(x, "then", 0, 11, 1, 1, 3, 0, 0);
        due("kinds", x.kind(0) * 1000 + x.kind(2) * 100 + x.kind(3) * 10 + x.kind(4), 5756);
        x.drop(3);
        x.drop(4);
        x.drop(2);
        due("what was old is gone too", x.collect(true), 2);
        x.drop(0);
        due("all are gone", x.collect(true), 0);
    }

    private static void runningThunksAreKept() {
        sentence("(A running thunk is itself needed, and live.");
        LazyHeap x = ofNumbers(3);
        x.thunk(1, SUM, 0, 0);
        chainThunks(x, 1, 1, 6);
        useYoung(x, 40);
        due("a sum under 6 thunks, that needs a minor collection", x.force(1) * 10 + x.value(1), 16);
        dueCounts(x, "then", 2, 30, 1, 0, 8, 7, 7);
        LazyHeap y = ofNumbers(3);
        y.thunk(1, SUM, 0, 0);
        chainThunks(y, 1, 1, 11);
        useOld(y, 80);
        useYoung(y, 40);
        due("a sum under 11 thunks, that needs a full collection", y.force(1) * 10 + y.value(1), 16);
        due("full collections", y.count(FULL), 1);
        due("old words", y.count(OLD_WORDS), 50);
        due("remembered", y.count(REMEMBERED), 12);
    }

    private static void linksAreHeldNoMore() {
        sentence("In a collection whatever holds a link holds that to which it links from then on.");
        for (int full = 0; full <= 1; full++) {
            LazyHeap x = ofNumbers(1, 2);
            x.thunk(2, SUM, 0, 1);
            x.pair(3, 2, 2);
            x.thunk(4, PRODUCT, 2, 2);
            x.copy(5, 2);
            x.collect(false);
            x.force(2);
            x.drop(2);
            due("old words", x.collect(full == 1), full == 1 ? 13 : 17);
            x.part(6, 3, false);
            x.part(7, 3, true);
            due("a pair", x.same(6, 5) && x.same(7, 5), true);
            due("a root", x.kind(5) * 10 + x.value(5), 53);
            due("a thunk", x.force(4) * 10 + x.value(4), 19);
        }
    }

    // ---- remembered ----

    private static final String REMEMBERED_IS = "REMEMBERED is an old object from when it is changed (a thunk that"
            + " becomes a link, or is tied) so that it holds a young object, until the next collection.";

    /** An old number in root 0, an old sum in root 1, and a young number in root 2. */
    private static LazyHeap withOldThunk() {
        LazyHeap x = ofNumbers(1);
        x.thunk(1, SUM, 0, 0);
        x.collect(false);
        x.number(2, 7);
        return x;
    }

    private static void rememberedTies() {
        sentence(REMEMBERED_IS);
        LazyHeap x = withOldThunk();
        x.tie(1, 0);
        due("tied to an old object", x.count(REMEMBERED), 0);
        x.tie(1, 1);
        due("tied to itself", x.count(REMEMBERED), 0);
        x.tie(1, 2);
        due("tied to a young object", x.count(REMEMBERED), 1);
        x.tie(1, 2);
        due("tied so twice", x.count(REMEMBERED), 1);
        x.tie(1, 0);
        due("until the next collection, though it is tied to an old one again", x.count(REMEMBERED), 1);
        x.thunk(3, SUM, 0, 0);
        x.tie(3, 2);
        x.tie(3, 3);
        due("a young thunk that is tied", x.count(REMEMBERED), 1);
        x.collect(false);
        due("after the next collection", x.count(REMEMBERED), 0);
        x.number(2, 8);
        x.tie(1, 2);
        x.tie(3, 2);
        due("two old ones", x.count(REMEMBERED), 2);
        dueThrow("a tie that is refused", NO_ARGUMENT, () -> x.tie(0, 2));
        due("is no change", x.count(REMEMBERED), 2);
    }

    private static void rememberedLinks() {
        sentence(REMEMBERED_IS);
        LazyHeap x = withOldThunk();
        x.force(1);
        due("a link to a young number", x.count(REMEMBERED), 1);
        x.collect(false);
        x.thunk(3, SAME, 0, 0);
        x.collect(false);
        x.force(3);
        due("a link to an old number", x.count(REMEMBERED), 0);
        x.thunk(3, SUM, 0, 0);
        x.force(3);
        due("a young link", x.count(REMEMBERED), 0);
        LazyHeap y = withOldThunk();
        y.tie(1, 2);
        y.force(1);
        due("a link that was a thunk that was remembered", y.count(REMEMBERED), 1);
        y.drop(2);
        due("holds its value alone", y.collect(false), 8);
        LazyHeap z = withOldThunk();
        z.pair(3, 1, 1);
        z.collect(false);
        z.force(1);
        due("a link, but not the old pair that holds it", z.count(REMEMBERED), 1);
    }

    private static void rememberedThroughLinks() {
        sentence(REMEMBERED_IS);
        LazyHeap x = ofNumbers(1, 2);
        x.thunk(2, SUM, 0, 1);
        x.copy(3, 2);
        x.thunk(4, SUM, 0, 1);
        x.collect(false);
        x.force(2);
        x.tie(4, 3);
        due("tied to an old link to a young number", x.count(REMEMBERED), 2);
        LazyHeap y = ofNumbers(1);
        y.thunk(1, SUM, 0, 0);
        y.collect(false);
        y.thunk(2, SAME, 0, 0);
        y.copy(3, 2);
        y.force(2);
        y.tie(1, 3);
        due("tied to a young link to an old number", y.count(REMEMBERED), 0);
        // The tie is not what makes it hold the young number, so it is not remembered for that.
        LazyHeap z = ofNumbers(1);
        z.thunk(1, SUM, 0, 0);
        z.thunk(2, SUM, 1, 0);
        z.collect(false);
        z.force(1);
        z.tie(2, 0);
        due("tied to an old number, while its a is an old link to a young one", z.count(REMEMBERED), 1);
        z.drop(1);
        z.collect(false);
        due("its a is kept all the same", z.force(2) * 10 + z.value(2), 13);
    }

    private static void rememberedUntilTheNext() {
        sentence("until the next collection");
        LazyHeap x = withOldThunk();
        x.tie(1, 2);
        x.collect(true);
        due("after a full one", x.count(REMEMBERED), 0);
        LazyHeap y = withOldThunk();
        y.tie(1, 2);
        useYoung(y, 40);
        y.number(3, 1);
        due("after one that makes room", y.count(REMEMBERED), 0);
        due("what it holds is kept", y.force(1) * 10 + y.value(1), 18);
        LazyHeap z = withOldThunk();
        z.tie(1, 2);
        useYoung(z, 40);
        z.drop(2);
        z.force(1);
        // The sum's own number needs room: the collection comes before the link.
        due("a link after the collection that its value needed", z.count(REMEMBERED), 1);
        due("value", z.value(1), 8);
    }

    // ---- what is thrown ----

    private static final String FIRST_THROWN = "What is thrown: the first of those listed in the heading that holds.";

    /** A number in root 0, a sum in root 2, nothing in root 6, and no room for anything more. */
    private static LazyHeap crowded() {
        LazyHeap x = ofNumbers(5);
        x.thunk(2, SUM, 0, 0);
        crowd(x);
        return x;
    }

    private static void firstThrown() {
        sentence(FIRST_THROWN);
        LazyHeap x = crowded();
        dueThrowUnchanged(x, "number: no root, no room", NO_INDEX, () -> x.number(8, 1));
        dueThrowUnchanged(x, "pair: no root, no room", NO_INDEX, () -> x.pair(-1, 0, 0));
        dueThrowUnchanged(x, "pair: nothing held, no room", NO_INDEX, () -> x.pair(0, 6, 0));
        dueThrowUnchanged(x, "pair: nothing held in b, no room", NO_INDEX, () -> x.pair(0, 0, 6));
        dueThrowUnchanged(x, "pair: no room", NO_ROOM, () -> x.pair(0, 0, 0));
        dueThrowUnchanged(x, "thunk: no root, operation or room", NO_INDEX, () -> x.thunk(8, 9, 0, 0));
        dueThrowUnchanged(x, "thunk: nothing held, no operation or room", NO_INDEX, () -> x.thunk(0, 9, 6, 0));
        dueThrowUnchanged(x, "thunk: nothing held in b, no operation", NO_INDEX, () -> x.thunk(0, -1, 0, 6));
        dueThrowUnchanged(x, "thunk: no operation or room", NO_ARGUMENT, () -> x.thunk(0, 9, 0, 0));
        dueThrowUnchanged(x, "thunk: no room", NO_ROOM, () -> x.thunk(0, 8, 0, 0));
        dueThrowUnchanged(x, "tie: no root b, no thunk", NO_INDEX, () -> x.tie(0, 8));
        dueThrowUnchanged(x, "tie: nothing in root b, no thunk", NO_INDEX, () -> x.tie(0, 6));
        dueThrowUnchanged(x, "tie: no thunk", NO_ARGUMENT, () -> x.tie(0, 0));
        dueThrowUnchanged(x, "part: no root to, no pair", NO_INDEX, () -> x.part(8, 0, false));
        dueThrowUnchanged(x, "part: no pair", NO_ARGUMENT, () -> x.part(6, 0, false));
        dueThrowUnchanged(x, "force: no room", NO_ROOM, () -> x.force(2));
    }

    private static void throwingChangesNothing() {
        sentence("A call that throws changes nothing");
        LazyHeap x = ofNumbers(10, 20, 30);
        x.thunk(3, DIFFERENCE, 0, 1);
        dueThrowUnchanged(x, "tie to nothing", NO_INDEX, () -> x.tie(3, 6));
        dueThrowUnchanged(x, "tie to no root", NO_INDEX, () -> x.tie(3, 8));
        due("the b is as before", x.force(3) * 100 + x.value(3), 90);
        LazyHeap y = crowded();
        y.copy(6, 1);
        dueThrowUnchanged(y, "a pair in a root that holds", NO_ROOM, () -> y.pair(6, 0, 0));
        due("the root holds what it held", y.same(6, 1), true);
        LazyHeap z = crowded();
        z.part(1, 1, false);
        z.part(1, 1, false);
        dueThrowUnchanged(z, "a minor collection", NO_ROOM, () -> z.collect(false));
    }

    private static final String FORCE_KEEPS = "but for force, which keeps the values that were found before it"
            + " failed, and the collections that there were.";

    private static void forceKeepsValues() {
        sentence(FORCE_KEEPS);
        LazyHeap x = ofNumbers(4, 0);
        x.thunk(2, SUM, 0, 0);
        x.thunk(3, QUOTIENT, 2, 1);
        x.thunk(4, SUM, 2, 3);
        dueThrow("one that fails by ZERO", NO_ARITHMETIC, () -> x.force(4));
        due("a value that was found", x.value(2), 8);
        due("those that failed", x.kind(3) * 10 + x.kind(4), 33);
        dueCounts(x, "then", 18, 0, 0, 0, 0, 0, 1);
        LazyHeap y = ofNumbers(4);
        y.thunk(2, SAME, 0, 0);
        y.thunk(3, SUM, 2, 0);
        crowd(y);
        dueThrow("one that fails by ROOM", NO_ROOM, () -> y.force(3));
        due("a value that was found", y.same(2, 0), true);
        due("the one that failed", y.kind(3), 7);
        due("links", y.count(LINKED), 1);
        LazyHeap z = ofNumbers(4);
        z.thunk(2, SAME, 0, 0);
        z.thunk(3, SUM, 2, 0);
        z.tie(3, 3);
        dueThrow("one that fails by LOOP", NO_STATE, () -> z.force(3));
        due("a value that was found", z.same(2, 0), true);
    }

    private static void forceKeepsCollections() {
        sentence(FORCE_KEEPS);
        for (int full = 0; full <= 1; full++) {
            LazyHeap x = ofNumbers(4, 0);
            x.thunk(2, SUM, 0, 0);
            x.thunk(3, QUOTIENT, 2, 1);
            useOld(x, full == 1 ? 42 : 40);
            int minors = x.count(MINOR);
            useYoung(x, 40);
            dueThrow("one that fails after a collection", NO_ARITHMETIC, () -> x.force(3));
            due("minor collections", x.count(MINOR), minors + 1 - full);
            due("full collections", x.count(FULL), full);
            due("old words", x.count(OLD_WORDS), full == 1 ? 12 : 40);
            due("young words", x.count(YOUNG_WORDS), 2);
            due("what became a link is remembered", x.count(REMEMBERED), 1);
            due("the value", x.kind(2) * 10 + x.value(2), 18);
        }
    }

    public static void main(String[] args) {
        madeYoung();
        roomForYoungObjects();
        roomForOldObjects();
        bothSpacesFull();
        usedWords();
        whichCollection();
        noCollectionWhenThereIsRoom();
        neededWhileRoomIsMade();
        noRoomLeft();
        heldByRoots();
        heldByRunningThunks();
        heldByRememberedObjects();
        heldByNeededObjects();
        youngLinks();
        othersAreGone();
        nothingIsLeftOfThem();
        manyCollections();
        liveObjects();
        linksAreNotLive();
        tooManyLiveWords();
        allAreOld();
        runningThunksAreKept();
        linksAreHeldNoMore();
        rememberedTies();
        rememberedLinks();
        rememberedThroughLinks();
        rememberedUntilTheNext();
        firstThrown();
        throwingChangesNothing();
        forceKeepsValues();
        forceKeepsCollections();
        end();
    }
}
