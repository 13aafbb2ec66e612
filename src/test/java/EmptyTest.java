import java.util.NoSuchElementException;

/** The sentences of the document that name what is empty, or not there. */
public final class EmptyTest extends Look {
    private static final Class<NoSuchElementException> NO_ELEMENT = NoSuchElementException.class;
    private static final Class<IndexOutOfBoundsException> OUT = IndexOutOfBoundsException.class;

    public static void main(String[] args) {
        emptyMap();
        allFramesEmpty();
        cursorAtFirst();
        rootAtFirst();
        rootWithoutEntriesAgain();
        getTouchesNothing();
        getTouchesNothingOfWhatIsInFrames();
        removeTouchesItsWay();
        seekWithoutAny();
        seekEndsTheCursor();
        seekInItsLeaf();
        seekInTheNextLeaf();
        seekBelowAnotherParent();
        seekInTheLastLeaf();
        nextWithoutAny();
        nextInItsLeaf();
        nextInTheNextLeaf();
        cursorEnds();
        cursorStays();
        nextOfALeafThatIsNone();
        nextOfTheLastLeaf();
        nextOfAPageThatWasALeaf();
        flushOfNone();
        dropOfNone();
        emptyFrameIsNotUsed();
        CHECK.end();
    }

    // ---- promise 1 and the root

    private static void emptyMap() {
        about("An empty map; all frames empty.");
        PagedTree tree = new PagedTree();
        due("keys", tree.told(0), 0);
        int[] keys = {MIN, -1, 0, 1, MAX};
        for (int key : keys) {
            dueThrow("get(" + key + ")", NO_ELEMENT, () -> tree.get(key));
            due("remove(" + key + ")", tree.remove(key), false);
            due("seek(" + key + ")", tree.seek(key), false);
        }
        due("keys then", tree.told(0), 0);
        due("astray", tree.astray(), 0);
    }

    private static void allFramesEmpty() {
        about("An empty map; all frames empty.");
        PagedTree tree = new PagedTree();
        for (int frame = 0; frame < 12; frame++) {
            dueFrame("new", tree, frame, NONE, 0, 0);
        }
        due("hits", tree.told(HITS), 0);
        due("read", tree.told(READ), 0);
        due("written", tree.told(WRITTEN), 0);
        due("drop()", tree.drop(), 0);
        about("the HAND (at first 0)");
        due("the hand", tree.told(HAND), 0);
        tree.seek(0);
        dueFrame("after the first touch", tree, 0, 0, 1, 0);
    }

    private static void cursorAtFirst() {
        about("NoSuchElement: it has ended.");
        dueEnded("of a new object", new PagedTree());
    }

    private static void rootAtFirst() {
        about("The ROOT is at first page 0, a leaf without entries.");
        PagedTree tree = new PagedTree();
        due("the root", tree.told(ROOT), 0);
        due("levels", tree.told(LEVELS), 1);
        due("pages that are not free", tree.told(PAGES), 1);
        dueLeaf("the root", tree, 0, NONE);
        dueThrow("item(0, 0, false)", OUT, () -> tree.item(0, 0, false));
        for (int page = 1; page < 40; page++) {
            due("page " + page, tree.page(page, 0), FREE);
        }
    }

    /** Only a root may be without entries, and it works on as at first. */
    private static void rootWithoutEntriesAgain() {
        about("A page but the root is SHORT with less than two entries, or children.");
        PagedTree tree = grown(1, 5);
        removeAll(tree, 5, 4);
        due("the root", tree.told(ROOT), 0);
        removeAll(tree, 1, 3);
        dueLeaf("a root with one entry", tree, 0, NONE, 2);
        due("remove of the last one", tree.remove(2), true);
        dueLeaf("a root without entries", tree, 0, NONE);
        dueTold("a root without entries", tree, 0, 0, 1, 1);
        due("seek(MIN)", tree.seek(MIN), false);
        due("remove again", tree.remove(2), false);
        due("put again", tree.put(2, 21), true);
        due("get again", tree.get(2), 21);
    }

    // ---- promises 3 and 4

    private static void getTouchesNothing() {
        about("nothing is, if it is not there");
        PagedTree none = new PagedTree();
        dueThrow("get(0) of an empty map", NO_ELEMENT, () -> none.get(0));
        dueTold("get(0) of an empty map", none, 0, 0, 1, 1, 0, 0, 0, 0);
        dueFrame("get(0) of an empty map", none, 0, NONE, 0, 0);
        PagedTree tree = grownBy(10, 10, 110);
        emptyFrames(tree);
        int hits = tree.told(HITS);
        int read = tree.told(READ);
        int[] keys = {MIN, 9, 11, 29, 51, 111, MAX};
        for (int key : keys) {
            dueThrow("get(" + key + ")", NO_ELEMENT, () -> tree.get(key));
        }
        due("hits", tree.told(HITS), hits);
        due("read", tree.told(READ), read);
        due("the hand", tree.told(HAND), 0);
        dueFramePages("get of none", tree);
    }

    private static void getTouchesNothingOfWhatIsInFrames() {
        about("nothing is, if it is not there");
        // As in WrapAroundTest: after get(15) the frame of page 0 is used no more.
        PagedTree tree = grown(1, 19);
        emptyFrames(tree);
        getAll(tree, 1, 5, 9, 13, 3, 7, 11, 15);
        dueFrame("before", tree, 2, 0, 0, 0);
        int hits = tree.told(HITS);
        dueThrow("get(0)", NO_ELEMENT, () -> tree.get(0));
        dueFrame("after get(0)", tree, 2, 0, 0, 0);
        due("hits", tree.told(HITS), hits);
        due("the hand", tree.told(HAND), 2);
    }

    private static void removeTouchesItsWay() {
        about("The pages of its way are touched; if it had one, the leaf changes");
        PagedTree tree = new PagedTree();
        due("remove(0) of an empty map", tree.remove(0), false);
        dueTold("remove(0) of an empty map", tree, 0, 0, 1, 1, 0, 1, 0, 1);
        dueFrame("remove(0) of an empty map", tree, 0, 0, 1, 0);
        PagedTree other = grown(1, 5);
        emptyFrames(other);
        due("remove(6)", other.remove(6), false);
        dueFramePages("remove(6)", other, 2, 1);
        dueDirty("remove(6)", other);
    }

    // ---- promise 5

    private static void seekWithoutAny() {
        about("whether there is any (else it has ended)");
        PagedTree none = new PagedTree();
        due("seek(MIN) in an empty map", none.seek(MIN), false);
        dueEnded("seek(MIN) in an empty map", none);
        due("its root is touched", none.told(READ), 1);
        PagedTree tree = grown(1, 5);
        due("seek(5)", tree.seek(5), true);
        dueCursor("seek(5)", tree, 5, 50);
        due("seek(6)", tree.seek(6), false);
        dueEnded("seek(6)", tree);
        due("seek(MAX)", tree.seek(MAX), false);
        dueEnded("seek(MAX)", tree);
    }

    private static void seekEndsTheCursor() {
        about("whether there is any (else it has ended)");
        PagedTree tree = grown(1, 5);
        due("seek(3)", tree.seek(3), true);
        due("seek(9)", tree.seek(9), false);
        dueEnded("where it was is left", tree);
        due("seek(4)", tree.seek(4), true);
        dueCursor("it is on again", tree, 4, 40);
    }

    private static void seekInItsLeaf() {
        about("if its leaf has no such key, the next one, if there is one");
        PagedTree tree = grownBy(10, 10, 50);
        emptyFrames(tree);
        due("seek(20)", tree.seek(20), true);
        dueCursor("seek(20)", tree, 20, 200);
        dueFramePages("the next one is not touched", tree, 2, 0);
        due("seek(MIN)", tree.seek(MIN), true);
        dueCursor("seek(MIN)", tree, 10, 100);
        due("seek(11)", tree.seek(11), true);
        dueCursor("seek(11)", tree, 20, 200);
        dueFramePages("nor then", tree, 2, 0);
    }

    private static void seekInTheNextLeaf() {
        about("if its leaf has no such key, the next one, if there is one");
        PagedTree tree = grownBy(10, 10, 50);
        emptyFrames(tree);
        int read = tree.told(READ);
        due("seek(21)", tree.seek(21), true);
        dueCursor("seek(21)", tree, 30, 300);
        dueFramePages("the next one is touched last", tree, 2, 0, 1);
        due("read", tree.told(READ), read + 3);
        int hits = tree.told(HITS);
        due("seek(29)", tree.seek(29), true);
        dueCursor("seek(29)", tree, 30, 300);
        due("hits of seek(29)", tree.told(HITS), hits + 3);
        due("seek(30)", tree.seek(30), true);
        dueCursor("seek(30)", tree, 30, 300);
        due("hits of seek(30)", tree.told(HITS), hits + 5);
    }

    private static void seekBelowAnotherParent() {
        about("if its leaf has no such key, the next one, if there is one");
        PagedTree tree = grownBy(10, 10, 110);
        emptyFrames(tree);
        due("seek(41)", tree.seek(41), true);
        dueCursor("seek(41)", tree, 50, 500);
        // The next leaf, 3, is below 6, which is not on the way and not touched.
        dueFramePages("seek(41)", tree, 7, 2, 1, 3);
    }

    private static void seekInTheLastLeaf() {
        about("if its leaf has no such key, the next one, if there is one");
        PagedTree tree = grownBy(10, 10, 50);
        emptyFrames(tree);
        due("seek(51)", tree.seek(51), false);
        dueFramePages("there is no next one", tree, 2, 1);
        dueEnded("seek(51)", tree);
    }

    // ---- promise 6

    private static void nextWithoutAny() {
        about("whether there is one (else it has ended)");
        PagedTree tree = grown(1, 2);
        tree.seek(1);
        due("next() to the last one", tree.next(), true);
        dueCursor("next() to the last one", tree, 2, 20);
        int hits = tree.told(HITS);
        due("next() behind the last one", tree.next(), false);
        due("its leaf is touched", tree.told(HITS), hits + 1);
        dueEnded("next() behind the last one", tree);
        due("nothing is touched then", tree.told(HITS), hits + 1);
    }

    private static void nextInItsLeaf() {
        about("if it was at its last entry, the next one, if there is one");
        PagedTree tree = grown(1, 5);
        emptyFrames(tree);
        tree.seek(1);
        due("next() to 2", tree.next(), true);
        dueFramePages("the next one is not touched", tree, 2, 0);
        dueCursor("next() to 2", tree, 2, 20);
    }

    private static void nextInTheNextLeaf() {
        about("if it was at its last entry, the next one, if there is one");
        PagedTree tree = grown(1, 11);
        emptyFrames(tree);
        tree.seek(4);
        dueFramePages("seek(4)", tree, 7, 2, 1);
        int hits = tree.told(HITS);
        due("next() to 5", tree.next(), true);
        dueCursor("next() to 5", tree, 5, 50);
        dueFramePages("only the next leaf is read", tree, 7, 2, 1, 3);
        due("only its leaf is hit", tree.told(HITS), hits + 1);
        tree.seek(11);
        int read = tree.told(READ);
        due("next() behind the last leaf", tree.next(), false);
        due("there is no next one", tree.told(READ), read);
        dueEnded("next() behind the last leaf", tree);
    }

    private static void cursorEnds() {
        about("The CURSOR ends.");
        PagedTree tree = grown(1, 5);
        tree.seek(2);
        due("put of a new key", tree.put(6, 60), true);
        dueEnded("put of a new key", tree);
        tree.seek(2);
        due("put of the same value", tree.put(2, 20), false);
        dueEnded("put of the same value", tree);
        about("The cursor ends.");
        tree.seek(2);
        due("remove of another key", tree.remove(6), true);
        dueEnded("remove of another key", tree);
        tree.seek(2);
        due("remove of none", tree.remove(6), false);
        dueEnded("remove of none", tree);
        about("All frames are empty, the hand is at 0, the cursor ends: how many had a page.");
        tree.flush();
        tree.seek(2);
        due("drop()", tree.drop(), 3);
        dueEnded("drop()", tree);
    }

    private static void cursorStays() {
        about("The key at the cursor, or (on value) what it had when the cursor came there.");
        PagedTree tree = grown(1, 5);
        tree.seek(2);
        tree.get(5);
        dueCursor("after get", tree, 2, 20);
        tree.flush();
        dueCursor("after flush", tree, 2, 20);
        tree.page(0, 0);
        tree.item(1, 1, true);
        tree.frame(0, 0);
        tree.told(0);
        tree.astray();
        dueCursor("after calls that look", tree, 2, 20);
        due("next()", tree.next(), true);
        dueCursor("after next", tree, 3, 30);
    }

    // ---- promise 10

    private static void nextOfALeafThatIsNone() {
        about("the next leaf (2; NONE)");
        PagedTree tree = grown(1, 11);
        due("of an inner page", tree.page(2, 2), NONE);
        due("of the other inner page", tree.page(6, 2), NONE);
        due("of the root", tree.page(7, 2), NONE);
        due("of a free page", tree.page(8, 2), NONE);
        due("of the last page", tree.page(39, 2), NONE);
        due("of a leaf", tree.page(0, 2), 1);
    }

    private static void nextOfTheLastLeaf() {
        about("the next leaf (2; NONE)");
        PagedTree tree = new PagedTree();
        due("of a root without entries", tree.page(0, 2), NONE);
        putAll(tree, 1, 2, 3, 4, 5);
        due("of the leaf before the last one", tree.page(0, 2), 1);
        due("of the last leaf", tree.page(1, 2), NONE);
        removeAll(tree, 5, 4);
        due("of the only leaf", tree.page(0, 2), NONE);
        due("of the leaf that is free again", tree.page(1, 2), NONE);
        due("of the root that is free again", tree.page(2, 2), NONE);
    }

    private static void nextOfAPageThatWasALeaf() {
        about("the next leaf (2; NONE)");
        PagedTree tree = grown(1, 17);
        dueLeaf("a leaf", tree, 3, 4, 5, 6);
        removeAll(tree, 1, 5, 6);
        dueFree("a leaf that is free", tree, 3);
        dueFree("a leaf that is free", tree, 1);
        // The leaf 11 splits with page 1, and its parent 10 with page 3.
        putAll(tree, 18, 19);
        dueLeaf("a leaf again", tree, 1, NONE, 17, 18, 19);
        dueInner("now an inner page", tree, 3, 9, 15, 11, 17, 1);
        dueInner("the one that split", tree, 10, 5, 11, 8);
    }

    // ---- promises 8, 9 and 12

    private static void flushOfNone() {
        about("All frames that are dirty are written, and are so no more: how many.");
        PagedTree tree = new PagedTree();
        due("flush() with empty frames", tree.flush(), 0);
        tree.seek(0);
        due("flush() with a clean frame", tree.flush(), 0);
        due("written", tree.told(WRITTEN), 0);
        dueFrame("flush() empties no frame", tree, 0, 0, 1, 0);
    }

    private static void dropOfNone() {
        about("All frames are empty, the hand is at 0, the cursor ends: how many had a page.");
        PagedTree tree = new PagedTree();
        due("drop() with empty frames", tree.drop(), 0);
        tree.put(1, 10);
        tree.flush();
        tree.seek(1);
        due("drop() with one", tree.drop(), 1);
        dueFrame("drop() with one", tree, 0, NONE, 0, 0);
        due("drop() with one: the hand", tree.told(HAND), 0);
        dueEnded("drop() with one", tree);
        due("drop() again", tree.drop(), 0);
        due("the map stays", tree.get(1), 10);
        due("written", tree.told(WRITTEN), 1);
    }

    private static void emptyFrameIsNotUsed() {
        about("its page (what = 0; NONE), whether it is used (1), dirty (2), each 1 or 0");
        PagedTree tree = grown(1, 5);
        dueFrame("one with a page", tree, 2, 2, 1, 1);
        dueFrame("one that was never taken", tree, 3, NONE, 0, 0);
        removeAll(tree, 5, 4);
        dueFrame("one whose page is free now", tree, 1, NONE, 0, 0);
        dueFrame("one whose root is free now", tree, 2, NONE, 0, 0);
        emptyFrames(tree);
        dueFrame("one that was dropped", tree, 0, NONE, 0, 0);
    }
}
