import java.util.NoSuchElementException;

/** The sentences of the document about the hand that goes round, and keys and values at the ends of int. */
public final class WrapAroundTest extends Look {
    public static void main(String[] args) {
        emptyFrameIsTaken();
        emptyFrameIsTakenRound();
        pageInAFrameIsHit();
        pinnedFrameIsPassed();
        readPageIsPinned();
        pinsEndWithTheCall();
        pinsEndBeforeNext();
        usedFrameIsUsedNoMore();
        hitFrameIsUsedAgain();
        wholeRoundWhenAllAreUsed();
        cleanPageLeavesUnwritten();
        dirtyPageIsWritten();
        newPageInAFrameOfADirtyOne();
        handBehindTheLastFrame();
        handGoesOnAfterDrop();
        eachPageIsTouchedOnce();
        keysAtTheEndsAreInOrder();
        keysFarApartAreCompared();
        waysAtTheMarks();
        marksAtTheEnds();
        marksOfNegativeKeys();
        seekAtTheEnds();
        nextAtTheEnds();
        removeAtTheEnds();
        valuesAtTheEnds();
        keysAndValuesThatAreNone();
        CHECK.end();
    }

    /**
     * Root 7; inner pages 2 (0 1), 6 (3 4), 10 (5 8), 13 (9 11 12); two keys in each leaf but the last,
     * 1 and 2 in page 0, up to 17, 18 and 19 in page 12. No frame has a page.
     */
    private static PagedTree fourteenPages() {
        PagedTree tree = grown(1, 19);
        emptyFrames(tree);
        return tree;
    }

    /** The frames have 7 2 0 6 3 10 5 13 9 1 4 8, all used, and the hand has gone round to 0. */
    private static PagedTree fullFrames() {
        PagedTree tree = fourteenPages();
        getAll(tree, 1, 5, 9, 13, 3, 7, 11);
        return tree;
    }

    /** The frames have 7 11 12 2 0 6 3 13 10 5 9 1, all used, and the hand has gone round again. */
    private static PagedTree fullFramesAgain() {
        PagedTree tree = fullFrames();
        getAll(tree, 15, 17, 1, 5, 9, 13, 3);
        return tree;
    }

    private static void dueUsed(String name, PagedTree tree, int... used) {
        for (int frame = 0; frame < 12; frame++) {
            due(name + ": frame " + frame + " is used", tree.frame(frame, 1), used[frame]);
        }
    }

    // ---- the hand

    private static void emptyFrameIsTaken() {
        about("Looking: the frame at the HAND (at first 0), if it is empty");
        PagedTree tree = fourteenPages();
        due("at first", tree.told(HAND), 0);
        tree.get(1);
        dueFramePages("the way of 1", tree, 7, 2, 0);
        due("behind the last one taken", tree.told(HAND), 3);
        tree.get(19);
        dueFramePages("the way of 19", tree, 7, 2, 0, 13, 12);
        due("behind the last one taken", tree.told(HAND), 5);
    }

    private static void emptyFrameIsTakenRound() {
        about("Looking: the frame at the HAND (at first 0), if it is empty");
        // 17 keys in 12 pages; the leaf 1 joins 0, and 6 joins 2, so that frames 1 and 6 are empty.
        PagedTree tree = grown(1, 17);
        dueFramePages("before", tree, 0, 1, 2, 3, 4, 5, 6, 7, 8, 9, 10, 11);
        tree.remove(1);
        dueFrame("the leaf that joined", tree, 1, NONE, 0, 0);
        dueFrame("the inner page that joined", tree, 6, NONE, 0, 0);
        due("the hand", tree.told(HAND), 0);
        // 11 splits with page 1, and 10 with page 6; 7, 10 and 11 are pinned, and 0 is used.
        tree.put(18, 180);
        tree.put(19, 190);
        dueFramePages("after", tree, 0, 1, 2, 3, 4, 5, 6, 7, 8, 9, 10, 11);
        dueUsed("frames 0 and 2 to 5 are used no more", tree, 0, 1, 0, 0, 0, 0, 1, 1, 1, 1, 1, 1);
        due("the hand is behind the second", tree.told(HAND), 7);
        due("none was written", tree.told(WRITTEN), 0);
    }

    private static void pageInAFrameIsHit() {
        about("if it is in a frame (a HIT), that is used and pinned");
        PagedTree tree = fourteenPages();
        int hits = tree.told(HITS);
        int read = tree.told(READ);
        tree.get(1);
        due("hits at first", tree.told(HITS), hits);
        due("read at first", tree.told(READ), read + 3);
        tree.get(2);
        due("hits then", tree.told(HITS), hits + 3);
        due("read then", tree.told(READ), read + 3);
        due("the hand stays", tree.told(HAND), 3);
    }

    private static void pinnedFrameIsPassed() {
        about("if it is pinned, the hand goes on by one, round");
        PagedTree tree = fullFrames();
        // 7 in frame 0 and 13 in frame 7 are pinned when a frame for 11 is looked for.
        tree.get(15);
        dueFramePages("get(15)", tree, 7, 11, 0, 6, 3, 10, 5, 13, 9, 1, 4, 8);
        dueUsed("pinned frames stay used", tree, 1, 1, 0, 0, 0, 0, 0, 1, 0, 0, 0, 0);
        due("the hand", tree.told(HAND), 2);
    }

    private static void readPageIsPinned() {
        about("and has it, not dirty, used and pinned");
        PagedTree tree = grownBy(10, 10, 190);
        emptyFrames(tree);
        getAll(tree, 10, 50, 90, 130, 30, 70);
        dueFramePages("before", tree, 7, 2, 0, 6, 3, 10, 5, 13, 9, 1, 4);
        // 11 takes the last frame; for 12, next to it, the hand comes round past that frame.
        due("seek(165)", tree.seek(165), true);
        dueFramePages("after", tree, 7, 12, 0, 6, 3, 10, 5, 13, 9, 1, 4, 11);
        dueUsed("7, 13 and 11 were pinned", tree, 1, 1, 0, 0, 0, 0, 0, 1, 0, 0, 0, 1);
        due("the hand", tree.told(HAND), 2);
    }

    private static void pinsEndWithTheCall() {
        about("perhaps PINNED (until the call ends)");
        PagedTree tree = fullFrames();
        tree.get(15);
        getAll(tree, 17, 1, 5);
        due("the hand", tree.told(HAND), 7);
        dueFrame("13, pinned by get(17)", tree, 7, 13, 1, 0);
        // On the way of 9 it is not pinned any more, so it is used no more.
        tree.get(9);
        dueFrame("13, after get(9)", tree, 7, 13, 0, 0);
        dueFrame("the frame behind it", tree, 8, 10, 1, 0);
    }

    private static void pinsEndBeforeNext() {
        about("perhaps PINNED (until the call ends)");
        PagedTree tree = fourteenPages();
        tree.seek(1);
        getAll(tree, 5, 9, 13, 3, 7, 11, 15, 17, 5, 9, 13);
        dueFramePages("0, the cursor's leaf, has left", tree, 7, 11, 12, 6, 3, 10, 5, 13, 9, 1, 4, 8);
        dueUsed("before", tree, 1, 1, 1, 1, 1, 1, 1, 1, 1, 0, 0, 0);
        due("before: the hand", tree.told(HAND), 3);
        int read = tree.told(READ);
        due("next()", tree.next(), true);
        dueCursor("next()", tree, 2, 20);
        due("next(): read", tree.told(READ), read + 1);
        dueFramePages("its leaf is back", tree, 7, 11, 12, 6, 3, 10, 5, 13, 9, 0, 4, 8);
        // 13 and 9 were pinned by get(13), which has ended.
        dueUsed("after", tree, 1, 1, 1, 0, 0, 0, 0, 0, 0, 1, 0, 0);
        due("after: the hand", tree.told(HAND), 10);
    }

    private static void usedFrameIsUsedNoMore() {
        about("if it is used, it is used no more, and the hand goes on");
        PagedTree tree = fullFrames();
        dueUsed("before", tree, 1, 1, 1, 1, 1, 1, 1, 1, 1, 1, 1, 1);
        tree.get(15);
        for (int frame = 2; frame < 12; frame++) {
            due("frame " + frame + " is used", tree.frame(frame, 1), frame == 7 ? 1 : 0);
        }
        int hits = tree.told(HITS);
        due("get(5)", tree.get(5), 50);
        due("their pages stay in them: hits", tree.told(HITS), hits + 3);
    }

    private static void hitFrameIsUsedAgain() {
        about("if it is in a frame (a HIT), that is used and pinned");
        PagedTree tree = fullFrames();
        tree.get(15);
        dueFrame("page 9 before", tree, 8, 9, 0, 0);
        tree.get(13);
        dueFrame("page 9 after get(13)", tree, 8, 9, 1, 0);
        due("the hand stays", tree.told(HAND), 2);
        getAll(tree, 17, 1, 5);
        due("the hand is before it", tree.told(HAND), 7);
        tree.get(9);
        // 13 and 9 are used, so they stay, and 1 and 4 leave.
        dueFrame("page 9 stays", tree, 8, 9, 0, 0);
        dueFrame("page 10 comes behind it", tree, 9, 10, 1, 0);
    }

    private static void wholeRoundWhenAllAreUsed() {
        about("if it is used, it is used no more, and the hand goes on; else its page leaves");
        PagedTree tree = fullFramesAgain();
        dueFramePages("before", tree, 7, 11, 12, 2, 0, 6, 3, 13, 10, 5, 9, 1);
        dueUsed("before", tree, 1, 1, 1, 1, 1, 1, 1, 1, 1, 1, 1, 1);
        due("before: the hand", tree.told(HAND), 0);
        tree.get(11);
        dueFramePages("after", tree, 7, 8, 12, 2, 0, 6, 3, 13, 10, 5, 9, 1);
        dueUsed("after", tree, 1, 1, 0, 0, 0, 0, 0, 0, 1, 0, 0, 0);
        due("after: the hand", tree.told(HAND), 2);
    }

    private static void cleanPageLeavesUnwritten() {
        about("else its page leaves, WRITTEN if dirty");
        PagedTree tree = fullFrames();
        int written = tree.told(WRITTEN);
        int read = tree.told(READ);
        tree.get(15);
        due("written", tree.told(WRITTEN), written);
        due("read", tree.told(READ), read + 1);
        tree.get(3);
        due("what left is read again", tree.told(READ), read + 2);
    }

    private static void dirtyPageIsWritten() {
        about("else its page leaves, WRITTEN if dirty");
        PagedTree tree = fullFramesAgain();
        tree.put(15, -15);
        dueFrame("it is dirty", tree, 1, 11, 1, 1);
        int written = tree.told(WRITTEN);
        tree.get(11);
        dueFrame("it left", tree, 1, 8, 1, 0);
        due("written", tree.told(WRITTEN), written + 1);
        due("no other is dirty", tree.flush(), 0);
        due("what was written is read", tree.get(15), -15);
    }

    private static void newPageInAFrameOfADirtyOne() {
        about("it was READ, unless it was free before");
        // All twelve frames are dirty, and 7, 10 and 11 are on the way of 19.
        PagedTree tree = grown(1, 17);
        due("read", tree.told(READ), 1);
        due("written", tree.told(WRITTEN), 0);
        putAll(tree, 18, 19);
        // Two new pages: 12 takes the frame of 0, and 13 that of 1; both were dirty.
        dueFrame("the new leaf", tree, 0, 12, 1, 1);
        dueFrame("the new inner page", tree, 1, 13, 1, 1);
        due("read then", tree.told(READ), 1);
        due("written then", tree.told(WRITTEN), 2);
        due("the hand", tree.told(HAND), 2);
        due("what left is read", tree.get(1), 10);
        due("read then", tree.told(READ), 2);
    }

    private static void handBehindTheLastFrame() {
        about("The hand then is behind the frame.");
        PagedTree empty = fourteenPages();
        getAll(empty, 1, 5, 9, 13, 3, 7);
        due("before the last empty frame", empty.told(HAND), 11);
        empty.get(11);
        due("the last frame was empty", empty.frame(11, 0), 8);
        due("the hand is at the first one", empty.told(HAND), 0);
        PagedTree tree = fullFrames();
        getAll(tree, 15, 17, 1, 5, 9, 13);
        due("before the last frame", tree.told(HAND), 11);
        dueFrame("the last frame", tree, 11, 8, 0, 0);
        tree.get(3);
        dueFrame("its page left", tree, 11, 1, 1, 0);
        due("the hand is at the first one again", tree.told(HAND), 0);
    }

    private static void handGoesOnAfterDrop() {
        about("All frames are empty, the hand is at 0, the cursor ends: how many had a page.");
        PagedTree tree = fullFrames();
        tree.get(15);
        due("before", tree.told(HAND), 2);
        due("drop()", tree.drop(), 12);
        due("after", tree.told(HAND), 0);
        dueFramePages("after", tree);
        tree.get(15);
        dueFramePages("from the first frame on", tree, 7, 13, 11);
        due("the hand", tree.told(HAND), 3);
    }

    private static void eachPageIsTouchedOnce() {
        about("Each page is touched at most once in a call.");
        PagedTree tree = grown(1, 10);
        int hits = tree.told(HITS);
        tree.put(11, 110);
        due("put: only the way is hit", tree.told(HITS), hits + 2);
        tree.remove(1);
        // The way 7, 2, 0; 1 beside 0; 6 beside 2.
        due("remove: the way, and one beside each", tree.told(HITS), hits + 7);
        tree.seek(4);
        // The way 7, 2, 0: after the join 4 is in page 0.
        due("seek", tree.told(HITS), hits + 10);
        tree.next();
        due("next: its leaf and the next one", tree.told(HITS), hits + 12);
        due("read", tree.told(READ), 1);
    }

    // ---- the ends of int

    private static void keysAtTheEndsAreInOrder() {
        about("A leaf has ENTRIES, a key and a value each, by rising keys");
        PagedTree tree = new PagedTree();
        int[] keys = {MAX, 0, MIN, -1};
        for (int key : keys) {
            due("put(" + key + ")", tree.put(key, ~key), true);
        }
        dueLeaf("four", tree, 0, NONE, MIN, -1, 0, MAX);
        due("put(1)", tree.put(1, ~1), true);
        dueLeaf("five", tree, 0, 1, MIN, -1);
        dueLeaf("five", tree, 1, NONE, 0, 1, MAX);
        dueInner("five", tree, 2, 0, 0, 1);
        int[] all = {MIN, -1, 0, 1, MAX};
        for (int key : all) {
            due("get(" + key + ")", tree.get(key), ~key);
            due("put(" + key + ") again", tree.put(key, key), false);
        }
        due("keys", tree.told(0), 5);
    }

    /** Their difference is no int. */
    private static void keysFarApartAreCompared() {
        about("The cursor is at the least key that is not below one");
        PagedTree tree = new PagedTree();
        putAll(tree, MAX, MIN);
        dueLeaf("both", tree, 0, NONE, MIN, MAX);
        int[] between = {MIN + 1, -2, -1, 0, 1, MAX - 1, MAX};
        for (int key : between) {
            due("seek(" + key + ")", tree.seek(key), true);
            due("seek(" + key + "): key", tree.cursor(false), MAX);
        }
        due("seek(MIN)", tree.seek(MIN), true);
        due("seek(MIN): key", tree.cursor(false), MIN);
    }

    private static void waysAtTheMarks() {
        about("by its last child whose mark is not above the key, or else its first child");
        PagedTree tree = grownBy(10, 10, 90);
        dueInner("marks", tree, 2, 0, 30, 1, 50, 3, 70, 4);
        int[] keys = {MIN, 9, 29, 30, 31, 49, 50, 69, 70, 71, MAX};
        int[] leaves = {0, 0, 0, 1, 1, 1, 3, 3, 4, 4, 4};
        for (int n = 0; n < keys.length; n++) {
            emptyFrames(tree);
            // The leaf of a key is the second page that its way touches.
            tree.seek(keys[n]);
            due("the leaf of " + keys[n], tree.frame(1, 0), leaves[n]);
        }
    }

    private static void marksAtTheEnds() {
        about("by its last child whose mark is not above the key, or else its first child");
        PagedTree low = new PagedTree();
        putAll(low, MIN, MIN + 1, MIN + 2, MIN + 3, MIN + 4);
        dueInner("the least mark", low, 2, 0, MIN + 2, 1);
        emptyFrames(low);
        low.get(MIN + 1);
        dueFramePages("below it", low, 2, 0);
        emptyFrames(low);
        low.get(MIN + 2);
        dueFramePages("at it", low, 2, 1);
        PagedTree high = new PagedTree();
        putAll(high, MAX, MAX - 1, MAX - 2, MAX - 3, MAX - 4);
        dueInner("a mark near the end", high, 2, 0, MAX - 2, 1);
        removeAll(high, MAX - 2, MAX - 1);
        // 1 has MAX alone and 0 has two, so they join.
        dueLeaf("joined", high, 0, NONE, MAX - 4, MAX - 3, MAX);
        putAll(high, MAX - 1, MAX - 2);
        dueInner("a mark near the end again", high, 2, 0, MAX - 2, 1);
        removeAll(high, MAX - 4);
        dueLeaf("the right one gave", high, 0, 1, MAX - 3, MAX - 2);
        dueInner("the greatest mark", high, 2, 0, MAX - 1, 1);
        emptyFrames(high);
        high.get(MAX);
        dueFramePages("above it", high, 2, 1);
    }

    /** A first child is told with 0, which is above these keys, and yet it is the way of the least. */
    private static void marksOfNegativeKeys() {
        about("the key, or mark (0 for a first child)");
        PagedTree tree = grown(-11, -1);
        dueInner("the first inner page", tree, 2, 0, -9, 1);
        dueInner("the other one", tree, 6, 3, -5, 4, -3, 5);
        dueInner("the root", tree, 7, 2, -7, 6);
        due("get(-11)", tree.get(-11), -110);
        due("get(-7)", tree.get(-7), -70);
        due("put(MIN)", tree.put(MIN, 1), true);
        dueLeaf("the first leaf", tree, 0, 1, MIN, -11, -10);
        PagedTree zero = grown(-2, 2);
        dueInner("a mark that is 0", zero, 2, 0, 0, 1);
        due("get(0)", zero.get(0), 0);
        due("get(-1)", zero.get(-1), -10);
    }

    private static void seekAtTheEnds() {
        about("The cursor is at the least key that is not below one");
        PagedTree tree = grown(-3, 3);
        due("seek(MIN) without it", tree.seek(MIN), true);
        dueCursor("seek(MIN) without it", tree, -3, -30);
        due("seek(MAX) without it", tree.seek(MAX), false);
        tree.put(MIN, 5);
        tree.put(MAX, 6);
        due("seek(MIN)", tree.seek(MIN), true);
        dueCursor("seek(MIN)", tree, MIN, 5);
        due("seek(MIN + 1)", tree.seek(MIN + 1), true);
        dueCursor("seek(MIN + 1)", tree, -3, -30);
        due("seek(4)", tree.seek(4), true);
        dueCursor("seek(4)", tree, MAX, 6);
        due("seek(MAX)", tree.seek(MAX), true);
        dueCursor("seek(MAX)", tree, MAX, 6);
    }

    private static void nextAtTheEnds() {
        about("The cursor goes on by one key: whether there is one (else it has ended).");
        PagedTree tree = new PagedTree();
        int[] keys = {MIN, MIN + 1, -1, 0, 1, MAX - 1, MAX};
        putAll(tree, keys);
        due("seek(MIN)", tree.seek(MIN), true);
        for (int n = 0; n < keys.length; n++) {
            dueCursor("key " + n, tree, keys[n], 10 * keys[n]);
            due("next() of key " + n, tree.next(), n + 1 < keys.length);
        }
        dueEnded("it does not go round to the first key", tree);
    }

    private static void removeAtTheEnds() {
        about("A key has no value any more: whether it had one.");
        PagedTree tree = new PagedTree();
        putAll(tree, MIN, MIN + 1, 0, MAX - 1, MAX);
        due("remove(MIN)", tree.remove(MIN), true);
        due("remove(MIN) again", tree.remove(MIN), false);
        due("remove(MAX)", tree.remove(MAX), true);
        due("remove(MAX) again", tree.remove(MAX), false);
        dueThrow("get(MIN)", NoSuchElementException.class, () -> tree.get(MIN));
        dueThrow("get(MAX)", NoSuchElementException.class, () -> tree.get(MAX));
        dueTold("then", tree, 3, 0, 1, 1);
        dueLeaf("then", tree, 0, NONE, MIN + 1, 0, MAX - 1);
    }

    private static void valuesAtTheEnds() {
        about("or (on second) the value, or child");
        PagedTree tree = new PagedTree();
        int[] values = {MIN, MAX, 0, -1, MIN + 1};
        for (int n = 0; n < values.length; n++) {
            tree.put(n, values[n]);
        }
        for (int n = 0; n < values.length; n++) {
            due("get(" + n + ")", tree.get(n), values[n]);
            due("item of " + n, tree.item(n < 2 ? 0 : 1, n < 2 ? n : n - 2, true), values[n]);
            tree.seek(n);
            due("cursor(true) at " + n, tree.cursor(true), values[n]);
        }
        due("put(0, MAX)", tree.put(0, MAX), false);
        due("get(0)", tree.get(0), MAX);
    }

    /** NONE is a key and a value as any other. */
    private static void keysAndValuesThatAreNone() {
        about("The key at the cursor, or (on value) what it had when the cursor came there.");
        PagedTree tree = new PagedTree();
        due("put(NONE, NONE)", tree.put(NONE, NONE), true);
        due("get(NONE)", tree.get(NONE), NONE);
        due("seek(NONE)", tree.seek(NONE), true);
        dueCursor("seek(NONE)", tree, NONE, NONE);
        due("item", tree.item(0, 0, true), NONE);
        due("put(NONE, NONE) again", tree.put(NONE, NONE), false);
        due("remove(NONE)", tree.remove(NONE), true);
        due("seek(NONE) then", tree.seek(NONE), false);
    }
}
