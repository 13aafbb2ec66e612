import java.util.NoSuchElementException;

/** Each promise of the document by runs of calls that were worked out by hand. */
public final class PromisesTest extends Look {
    public static void main(String[] args) {
        newObject();
        putSplitsLeaves();
        putSplitsInnerPages();
        putAgain();
        putBeyondThePages();
        getValues();
        removeWithGivingLeaves();
        removeWithJoiningLeaves();
        removeBetweenTwo();
        removeWithInnerPages();
        removeWithGivingLeftInnerPage();
        removeNone();
        removeFreesFrames();
        seekKeys();
        nextKeys();
        cursorAnswers();
        flushFrames();
        dropFrames();
        pageAnswers();
        itemAnswers();
        frameAnswers();
        handGoesRound();
        toldAnswers();
        nothingAstray();
        CHECK.end();
    }

    // ---- promise 1

    private static void newObject() {
        PagedTree tree = new PagedTree();
        dueTold("new", tree, 0, 0, 1, 1, 0, 0, 0, 0);
        dueLeaf("new", tree, 0, NONE);
        for (int page = 1; page < 40; page++) {
            due("new: page " + page, tree.page(page, 0), FREE);
            due("new: next of " + page, tree.page(page, 2), NONE);
        }
        for (int frame = 0; frame < 12; frame++) {
            dueFrame("new", tree, frame, NONE, 0, 0);
        }
        dueEnded("new", tree);
        due("new: flush()", tree.flush(), 0);
        due("new: drop()", tree.drop(), 0);
        due("new: astray()", tree.astray(), 0);
        PagedTree other = new PagedTree();
        other.put(1, 1);
        due("new: one object does not change another", tree.told(0), 0);
    }

    // ---- promise 2

    private static void putSplitsLeaves() {
        PagedTree tree = new PagedTree();
        int[] keys = {50, 10, 40, 20};
        for (int key : keys) {
            due("put(" + key + ")", tree.put(key, key + 1), true);
        }
        dueLeaf("put four", tree, 0, NONE, 10, 20, 40, 50);
        dueTold("put four", tree, 4, 0, 1, 1, 3, 1, 0, 1);
        due("put(30)", tree.put(30, 31), true);
        dueLeaf("put five", tree, 0, 1, 10, 20);
        dueLeaf("put five", tree, 1, NONE, 30, 40, 50);
        dueInner("put five", tree, 2, 0, 30, 1);
        dueTold("put five", tree, 5, 2, 2, 3, 4, 1, 0, 3);
        for (int page = 0; page < 3; page++) {
            dueFrame("put five", tree, page, page, 1, 1);
        }
        tree.put(11, 0);
        tree.put(12, 0);
        tree.flush();
        due("put(13)", tree.put(13, 0), true);
        dueLeaf("put between", tree, 0, 3, 10, 11);
        dueLeaf("put between", tree, 3, 1, 12, 13, 20);
        dueLeaf("put between", tree, 1, NONE, 30, 40, 50);
        dueInner("put between", tree, 2, 0, 12, 3, 30, 1);
        dueFrame("put between", tree, 0, 0, 1, 1);
        dueFrame("put between", tree, 1, 1, 1, 0);
        dueFrame("put between", tree, 2, 2, 1, 1);
        dueFrame("put between", tree, 3, 3, 1, 1);
        dueTold("put between", tree, 8, 2, 2, 4, 10, 1, 3, 4);
        due("the value of the edge", tree.put(MAX, MIN) && tree.put(MIN, MAX), true);
        due("get(MAX)", tree.get(MAX), MIN);
        due("get(MIN)", tree.get(MIN), MAX);
    }

    private static void putSplitsInnerPages() {
        PagedTree tree = grown(1, 10);
        dueInner("grown to 10", tree, 2, 0, 3, 1, 5, 3, 7, 4);
        due("put(11)", tree.put(11, 110), true);
        dueInner("grown to 11", tree, 2, 0, 3, 1);
        dueInner("grown to 11", tree, 6, 3, 7, 4, 9, 5);
        dueInner("grown to 11", tree, 7, 2, 5, 6);
        dueLeaf("grown to 11", tree, 4, 5, 7, 8);
        dueLeaf("grown to 11", tree, 5, NONE, 9, 10, 11);
        dueTold("grown to 11", tree, 11, 7, 3, 8);
        due("frame of the new leaf", tree.frame(5, 0), 5);
        due("frame of the new inner page", tree.frame(6, 0), 6);
        due("frame of the new root", tree.frame(7, 0), 7);
        // Page 1 is freed by remove(1), with page 2 left short; the next page that splits takes it.
        tree.remove(1);
        dueFree("a hole", tree, 1);
        tree.put(12, 120);
        tree.put(13, 130);
        dueLeaf("a hole", tree, 5, 1, 9, 10);
        dueLeaf("a hole", tree, 1, NONE, 11, 12, 13);
    }

    private static void putAgain() {
        PagedTree tree = grown(1, 5);
        tree.flush();
        due("put again", tree.put(3, 30), false);
        dueFrame("put the same", tree, 0, 0, 1, 0);
        dueFrame("put the same", tree, 1, 1, 1, 1);
        dueFrame("put the same", tree, 2, 2, 1, 0);
        due("put anew", tree.put(1, -7), false);
        due("put anew: get", tree.get(1), -7);
        due("put anew: keys", tree.told(0), 5);
        tree.seek(1);
        tree.put(1, -8);
        dueEnded("put ends the cursor", tree);
        tree.seek(1);
        tree.put(99, 1);
        dueEnded("put of a new key ends the cursor", tree);
    }

    private static void putBeyondThePages() {
        PagedTree tree = grown(0, 45);
        dueTold("grown to 45", tree, 46, 18, 4, 37);
        tree.seek(44);
        int[] before = new int[8];
        for (int what = 0; what < 8; what++) {
            before[what] = tree.told(what);
        }
        // Five pages would be needed, and three are free.
        CHECK.dueThrow("put(46)", UnsupportedOperationException.class, () -> tree.put(46, 1) ? 1 : 0);
        dueTold("put that throws", tree, before);
        due("put that throws: cursor(false)", tree.cursor(false), 44);
        due("put that throws: cursor(true)", tree.cursor(true), 440);
        CHECK.dueThrow("get(46)", NoSuchElementException.class, () -> tree.get(46));
        due("put of a key that is there", tree.put(45, 5), false);
        due("put where there is room", tree.put(-1, 5), true);
        due("put where there is still room", tree.put(-2, 5), true);
        due("put with one page", tree.put(-3, 5), true);
        due("pages then", tree.told(3), 38);
        due("astray then", tree.astray(), 0);
    }

    // ---- promise 3

    private static void getValues() {
        PagedTree tree = grown(1, 5);
        due("get(1)", tree.get(1), 10);
        due("get(3)", tree.get(3), 30);
        due("get(5)", tree.get(5), 50);
        tree.flush();
        tree.drop();
        int hits = tree.told(4);
        int reads = tree.told(5);
        int[] absent = {0, 6, MIN, MAX};
        for (int key : absent) {
            CHECK.dueThrow("get(" + key + ")", NoSuchElementException.class, () -> tree.get(key));
        }
        due("get of none: hits", tree.told(4), hits);
        due("get of none: reads", tree.told(5), reads);
        due("get of none: frame 0", tree.frame(0, 0), NONE);
        due("get(4)", tree.get(4), 40);
        due("get: reads", tree.told(5), reads + 2);
        dueFrame("get", tree, 0, 2, 1, 0);
        dueFrame("get", tree, 1, 1, 1, 0);
        dueFrame("get", tree, 2, NONE, 0, 0);
        due("get: the hand", tree.told(7), 2);
        tree.seek(2);
        tree.get(5);
        due("get leaves the cursor", tree.cursor(false), 2);
        CHECK.dueThrow("get(9)", NoSuchElementException.class, () -> tree.get(9));
        due("get of none leaves the cursor", tree.cursor(false), 2);
    }

    // ---- promise 4

    private static void removeWithGivingLeaves() {
        PagedTree tree = grown(1, 5);
        tree.put(0, 0);
        due("remove(3)", tree.remove(3), true);
        dueLeaf("no page is short", tree, 1, NONE, 4, 5);
        dueInner("the mark stays", tree, 2, 0, 3, 1);
        due("remove(4)", tree.remove(4), true);
        dueLeaf("the left one gave", tree, 0, 1, 0, 1);
        dueLeaf("the left one gave", tree, 1, NONE, 2, 5);
        dueInner("the left one gave", tree, 2, 0, 2, 1);
        due("what was given", tree.item(1, 0, true), 20);

        PagedTree other = grown(1, 5);
        other.flush();
        due("remove(1)", other.remove(1), true);
        dueLeaf("the right one gave", other, 0, 1, 2, 3);
        dueLeaf("the right one gave", other, 1, NONE, 4, 5);
        dueInner("the right one gave", other, 2, 0, 4, 1);
        for (int frame = 0; frame < 3; frame++) {
            due("the right one gave: dirty " + frame, other.frame(frame, 2), 1);
        }
        due("removed", other.remove(1), false);
        due("keys", other.told(0), 4);
    }

    private static void removeWithJoiningLeaves() {
        PagedTree tree = grown(1, 5);
        tree.remove(5);
        due("remove(4)", tree.remove(4), true);
        dueLeaf("joined its left one", tree, 0, NONE, 1, 2, 3);
        dueFree("joined its left one", tree, 1);
        dueFree("joined its left one", tree, 2);
        dueTold("joined its left one", tree, 3, 0, 1, 1);

        PagedTree other = grown(1, 5);
        other.remove(5);
        due("remove(1)", other.remove(1), true);
        dueLeaf("its right one joined", other, 0, NONE, 2, 3, 4);
        dueFree("its right one joined", other, 1);
        dueFree("its right one joined", other, 2);
        dueTold("its right one joined", other, 3, 0, 1, 1);
        due("remove(2)", other.remove(2), true);
        due("remove(3)", other.remove(3), true);
        due("remove(4)", other.remove(4), true);
        dueLeaf("a root without entries", other, 0, NONE);
    }

    private static void removeBetweenTwo() {
        PagedTree tree = grown(1, 7);
        tree.remove(7);
        tree.flush();
        int hits = tree.told(4);
        due("remove(3)", tree.remove(3), true);
        due("both are touched", tree.told(4), hits + 4);
        dueLeaf("between two", tree, 0, 3, 1, 2, 4);
        dueFree("between two", tree, 1);
        dueInner("between two", tree, 2, 0, 5, 3);
        dueFrame("between two", tree, 0, 0, 1, 1);
        dueFrame("between two", tree, 1, NONE, 0, 0);
        dueFrame("between two", tree, 2, 2, 1, 1);
        dueFrame("the right one did not change", tree, 3, 3, 1, 0);

        PagedTree other = grown(1, 7);
        other.put(0, 0);
        other.flush();
        other.drop();
        int reads = other.told(5);
        due("remove(4)", other.remove(4), true);
        due("the right one is not touched", other.told(5), reads + 3);
        dueFrame("the left one gives first", other, 0, 2, 1, 1);
        dueFrame("the left one gives first", other, 1, 1, 1, 1);
        dueFrame("the left one gives first", other, 2, 0, 1, 1);
        dueLeaf("the left one gives first", other, 0, 1, 0, 1);
        dueLeaf("the left one gives first", other, 1, 3, 2, 3);
        dueLeaf("the left one gives first", other, 3, NONE, 5, 6, 7);
        other.flush();
        other.drop();
        reads = other.told(5);
        due("remove(2)", other.remove(2), true);
        due("the right one is touched after the left one", other.told(5), reads + 4);
        dueFrame("the right one gives then", other, 2, 0, 1, 0);
        dueFrame("the right one gives then", other, 3, 3, 1, 1);
        dueLeaf("the right one gives then", other, 1, 3, 3, 5);
        dueInner("the right one gives then", other, 2, 0, 2, 1, 6, 3);
    }

    private static void removeWithInnerPages() {
        PagedTree tree = grown(1, 11);
        due("remove(1)", tree.remove(1), true);
        dueLeaf("an inner page gave", tree, 0, 3, 2, 3, 4);
        dueFree("an inner page gave", tree, 1);
        dueInner("an inner page gave", tree, 2, 0, 5, 3);
        dueInner("an inner page gave", tree, 6, 4, 9, 5);
        dueInner("an inner page gave", tree, 7, 2, 7, 6);
        tree.remove(11);
        tree.flush();
        due("remove(10)", tree.remove(10), true);
        dueLeaf("inner pages joined", tree, 4, NONE, 7, 8, 9);
        dueInner("inner pages joined", tree, 2, 0, 5, 3, 7, 4);
        dueFree("inner pages joined", tree, 5);
        dueFree("inner pages joined", tree, 6);
        dueFree("inner pages joined", tree, 7);
        dueTold("inner pages joined", tree, 8, 2, 2, 4);
        due("pages that are free are not written", tree.flush(), 2);
        due("astray", tree.astray(), 0);

        PagedTree other = grown(1, 11);
        other.remove(11);
        other.remove(10);
        dueInner("before the right one joins", other, 6, 3, 7, 4);
        due("remove(2)", other.remove(2), true);
        dueInner("the right one joined", other, 2, 0, 5, 3, 7, 4);
        dueLeaf("the right one joined", other, 0, 3, 1, 3, 4);
        dueTold("the right one joined", other, 8, 2, 2, 4);
    }

    private static void removeWithGivingLeftInnerPage() {
        PagedTree tree = grown(1, 11);
        tree.put(0, 0);
        tree.put(-1, -10);
        tree.put(-2, -20);
        dueInner("three on the left", tree, 2, 0, 0, 8, 3, 1);
        tree.remove(11);
        tree.remove(10);
        tree.remove(5);
        dueInner("two on the right", tree, 6, 3, 8, 4);
        due("remove(6)", tree.remove(6), true);
        dueInner("the left inner page gave", tree, 2, 0, 0, 8);
        dueInner("the left inner page gave", tree, 6, 1, 5, 3);
        dueInner("the left inner page gave", tree, 7, 2, 3, 6);
        dueLeaf("the left inner page gave", tree, 3, NONE, 7, 8, 9);
        dueFree("the left inner page gave", tree, 4);
        due("get(4)", tree.get(4), 40);
        due("get(7)", tree.get(7), 70);
        due("astray", tree.astray(), 0);
    }

    private static void removeNone() {
        PagedTree tree = grown(1, 5);
        tree.flush();
        tree.seek(1);
        int hits = tree.told(4);
        due("remove(9)", tree.remove(9), false);
        due("remove of none: hits", tree.told(4), hits + 2);
        for (int frame = 0; frame < 12; frame++) {
            due("remove of none: dirty " + frame, tree.frame(frame, 2), 0);
        }
        dueEnded("remove of none", tree);
        tree.seek(1);
        tree.remove(5);
        dueEnded("remove", tree);
        due("remove(MIN)", tree.remove(MIN), false);
        due("remove(MAX)", tree.remove(MAX), false);
    }

    private static void removeFreesFrames() {
        PagedTree tree = grown(1, 5);
        tree.remove(5);
        tree.remove(4);
        dueFrame("freed", tree, 0, 0, 1, 1);
        dueFrame("freed", tree, 1, NONE, 0, 0);
        dueFrame("freed", tree, 2, NONE, 0, 0);
        dueTold("freed", tree, 3, 0, 1, 1, 9, 1, 0, 3);
        due("only the root is dirty", tree.flush(), 1);
        // The hand is behind the frames that are empty, and does not go back to them.
        tree.put(4, 40);
        tree.put(5, 50);
        dueFrame("the hand goes on", tree, 1, NONE, 0, 0);
        dueFrame("the hand goes on", tree, 3, 1, 1, 1);
        dueFrame("the hand goes on", tree, 4, 2, 1, 1);
        due("new pages are not read", tree.told(5), 1);
    }

    // ---- promises 5, 6 and 7

    private static void seekKeys() {
        PagedTree tree = grown(1, 5);
        tree.remove(3);
        int hits = tree.told(4);
        due("seek(2)", tree.seek(2), true);
        due("seek(2): key", tree.cursor(false), 2);
        due("seek(2): hits", tree.told(4), hits + 2);
        due("seek(3)", tree.seek(3), true);
        due("seek(3): key", tree.cursor(false), 4);
        due("seek(3): hits", tree.told(4), hits + 4);
        due("seek(MIN)", tree.seek(MIN), true);
        due("seek(MIN): key", tree.cursor(false), 1);
        due("seek(MAX)", tree.seek(MAX), false);
        due("seek(MAX): hits", tree.told(4), hits + 8);
        dueEnded("seek(MAX)", tree);
        PagedTree gap = new PagedTree();
        for (int key = 10; key <= 50; key += 10) {
            gap.put(key, key + 1);
        }
        gap.flush();
        gap.drop();
        int reads = gap.told(5);
        due("seek(25)", gap.seek(25), true);
        due("seek(25): key", gap.cursor(false), 30);
        due("seek(25): value", gap.cursor(true), 31);
        due("seek(25): reads", gap.told(5), reads + 3);
        dueFrame("seek(25)", gap, 0, 2, 1, 0);
        dueFrame("seek(25)", gap, 1, 0, 1, 0);
        dueFrame("seek(25)", gap, 2, 1, 1, 0);
        PagedTree none = new PagedTree();
        due("seek in none", none.seek(0), false);
        due("seek in none: reads", none.told(5), 1);
        dueEnded("seek in none", none);
    }

    private static void nextKeys() {
        PagedTree tree = grown(1, 5);
        tree.flush();
        tree.drop();
        tree.seek(1);
        int reads = tree.told(5);
        int hits = tree.told(4);
        due("next to 2", tree.next(), true);
        due("next to 2: key", tree.cursor(false), 2);
        due("next to 2: hits", tree.told(4), hits + 1);
        due("next to 2: reads", tree.told(5), reads);
        due("next to 3", tree.next(), true);
        due("next to 3: key", tree.cursor(false), 3);
        due("next to 3: value", tree.cursor(true), 30);
        due("next to 3: hits", tree.told(4), hits + 2);
        due("next to 3: reads", tree.told(5), reads + 1);
        due("next to 4", tree.next(), true);
        due("next to 5", tree.next(), true);
        due("next to 5: key", tree.cursor(false), 5);
        due("next to none", tree.next(), false);
        due("next to none: hits", tree.told(4), hits + 5);
        dueEnded("next to none", tree);
        due("next that throws: hits", tree.told(4), hits + 5);
        nextWhenItsLeafHasLeft();
        int seen = 0;
        PagedTree all = grown(-20, 20);
        for (boolean on = all.seek(MIN); on; on = all.next()) {
            due("all keys: " + seen, all.cursor(false), seen - 20);
            seen++;
        }
        due("all keys", seen, 41);
    }

    private static void nextWhenItsLeafHasLeft() {
        PagedTree tree = grown(1, 19);
        tree.flush();
        tree.drop();
        tree.seek(1);
        int[] keys = {5, 9, 13, 3, 7, 11, 15, 17};
        for (int key : keys) {
            tree.get(key);
        }
        dueFrame("page 0 has left", tree, 2, 12, 1, 0);
        int reads = tree.told(5);
        due("next() of a leaf that has left", tree.next(), true);
        due("next() of a leaf that has left: key", tree.cursor(false), 2);
        due("next() of a leaf that has left: reads", tree.told(5), reads + 1);
        dueFrame("page 0 is back", tree, 3, 0, 1, 0);
    }

    private static void cursorAnswers() {
        PagedTree tree = grown(1, 3);
        dueEnded("cursor at first", tree);
        tree.seek(2);
        int hits = tree.told(4);
        due("cursor(false)", tree.cursor(false), 2);
        due("cursor(true)", tree.cursor(true), 20);
        due("cursor touches nothing", tree.told(4), hits);
        tree.flush();
        due("flush leaves the cursor", tree.cursor(false), 2);
        tree.put(2, 21);
        dueEnded("cursor after put", tree);
        tree.seek(2);
        due("cursor(true) anew", tree.cursor(true), 21);
        due("cursor twice", tree.cursor(true), 21);
    }

    // ---- promises 8 and 9

    private static void flushFrames() {
        PagedTree tree = grown(1, 5);
        due("flush()", tree.flush(), 3);
        due("flush(): written", tree.told(6), 3);
        for (int frame = 0; frame < 3; frame++) {
            dueFrame("flush", tree, frame, frame, 1, 0);
        }
        due("flush() again", tree.flush(), 0);
        due("flush() again: written", tree.told(6), 3);
        tree.put(5, 0);
        due("flush() of one", tree.flush(), 1);
        due("flush() of one: written", tree.told(6), 4);
        due("flush() does not touch", tree.told(7), 3);
    }

    private static void dropFrames() {
        PagedTree tree = grown(1, 5);
        tree.seek(4);
        CHECK.dueThrow("drop()", IllegalStateException.class, () -> tree.drop());
        due("drop() that throws: cursor", tree.cursor(false), 4);
        due("drop() that throws: hand", tree.told(7), 3);
        dueFrame("drop() that throws", tree, 1, 1, 1, 1);
        tree.flush();
        due("drop()", tree.drop(), 3);
        dueEnded("drop()", tree);
        due("drop(): hand", tree.told(7), 0);
        for (int frame = 0; frame < 12; frame++) {
            dueFrame("drop()", tree, frame, NONE, 0, 0);
        }
        due("drop() again", tree.drop(), 0);
        due("drop(): written", tree.told(6), 3);
        due("drop(): keys", tree.told(0), 5);
        due("drop(): get(5)", tree.get(5), 50);
        tree.put(5, 51);
        tree.get(1);
        CHECK.dueThrow("drop() with one dirty", IllegalStateException.class, () -> tree.drop());
        due("drop() with one dirty", tree.frame(0, 0), 2);
    }

    // ---- promises 10, 11 and 12

    private static void pageAnswers() {
        PagedTree tree = grown(1, 5);
        int[] wrongPages = {MIN, -1, 40, MAX};
        int[] wrongWhats = {MIN, -1, 3, MAX};
        for (int x : wrongPages) {
            for (int what = 0; what < 3; what++) {
                int w = what;
                CHECK.dueThrow("page(" + x + ", " + w + ")", IndexOutOfBoundsException.class, () -> tree.page(x, w));
            }
        }
        for (int x : wrongWhats) {
            CHECK.dueThrow("page(0, " + x + ")", IllegalArgumentException.class, () -> tree.page(0, x));
            CHECK.dueThrow("page(39, " + x + ")", IllegalArgumentException.class, () -> tree.page(39, x));
            CHECK.dueThrow("page(40, " + x + ")", IndexOutOfBoundsException.class, () -> tree.page(40, x));
        }
        due("page(0, 2)", tree.page(0, 2), 1);
        due("page(1, 2)", tree.page(1, 2), NONE);
        due("page(2, 2)", tree.page(2, 2), NONE);
        due("page(39, 0)", tree.page(39, 0), FREE);
        due("page(39, 1)", tree.page(39, 1), 0);
        due("page(39, 2)", tree.page(39, 2), NONE);
        int hits = tree.told(4);
        tree.page(0, 0);
        due("page touches nothing", tree.told(4), hits);
    }

    private static void itemAnswers() {
        PagedTree tree = grown(1, 5);
        due("item(1, 2, false)", tree.item(1, 2, false), 5);
        due("item(1, 2, true)", tree.item(1, 2, true), 50);
        due("item(2, 0, false)", tree.item(2, 0, false), 0);
        due("item(2, 0, true)", tree.item(2, 0, true), 0);
        due("item(2, 1, false)", tree.item(2, 1, false), 3);
        due("item(2, 1, true)", tree.item(2, 1, true), 1);
        int[] wrongItems = {MIN, -1, 2, 3, 4, 5, MAX};
        int[] wrongPages = {MIN, -1, 3, 39, 40, MAX};
        for (int second = 0; second < 2; second++) {
            boolean s = second == 1;
            for (int x : wrongItems) {
                CHECK.dueThrow("item(0, " + x + ")", IndexOutOfBoundsException.class, () -> tree.item(0, x, s));
                CHECK.dueThrow("item(2, " + x + ")", IndexOutOfBoundsException.class, () -> tree.item(2, x, s));
            }
            for (int x : wrongPages) {
                CHECK.dueThrow("item(" + x + ", 0)", IndexOutOfBoundsException.class, () -> tree.item(x, 0, s));
            }
        }
        int hits = tree.told(4);
        tree.item(0, 0, true);
        due("item touches nothing", tree.told(4), hits);
    }

    private static void frameAnswers() {
        PagedTree tree = grown(1, 5);
        int[] wrongFrames = {MIN, -1, 12, MAX};
        int[] wrongWhats = {MIN, -1, 3, MAX};
        for (int x : wrongFrames) {
            for (int what = 0; what < 3; what++) {
                int w = what;
                CHECK.dueThrow("frame(" + x + ", " + w + ")", IndexOutOfBoundsException.class, () -> tree.frame(x, w));
            }
        }
        for (int x : wrongWhats) {
            CHECK.dueThrow("frame(0, " + x + ")", IllegalArgumentException.class, () -> tree.frame(0, x));
            CHECK.dueThrow("frame(11, " + x + ")", IllegalArgumentException.class, () -> tree.frame(11, x));
            CHECK.dueThrow("frame(12, " + x + ")", IndexOutOfBoundsException.class, () -> tree.frame(12, x));
        }
        dueFrame("frame", tree, 11, NONE, 0, 0);
        dueFrame("frame", tree, 0, 0, 1, 1);
    }

    private static void handGoesRound() {
        // Root 7; inner pages 2 (0 1), 6 (3 4), 10 (5 8), 13 (9 11 12).
        PagedTree tree = grown(1, 19);
        dueInner("the tree", tree, 7, 2, 5, 6, 9, 10, 13, 13);
        dueInner("the tree", tree, 13, 9, 15, 11, 17, 12);
        tree.flush();
        tree.drop();
        int hits = tree.told(4);
        int reads = tree.told(5);
        int writes = tree.told(6);
        int[] keys = {1, 5, 9, 13, 3, 7, 11};
        for (int key : keys) {
            due("get(" + key + ")", tree.get(key), 10 * key);
        }
        int[] held = {7, 2, 0, 6, 3, 10, 5, 13, 9, 1, 4, 8};
        for (int frame = 0; frame < 12; frame++) {
            dueFrame("all frames", tree, frame, held[frame], 1, 0);
        }
        dueTold("all frames", tree, 19, 7, 3, 14, hits + 9, reads + 12, writes, 0);
        // 7 and 13 are pinned and stay used; the others are used no more; then 2 leaves.
        tree.get(15);
        held[1] = 11;
        for (int frame = 0; frame < 12; frame++) {
            int used = frame < 2 || frame == 7 ? 1 : 0;
            dueFrame("round once", tree, frame, held[frame], used, 0);
        }
        dueTold("round once", tree, 19, 7, 3, 14, hits + 11, reads + 13, writes, 2);
        tree.get(17);
        due("17 is in", tree.frame(2, 0), 12);
        due("the hand is behind it", tree.told(7), 3);
        tree.put(17, 0);
        int[] more = {1, 3, 5, 9, 13, 7, 3};
        for (int key : more) {
            tree.get(key);
        }
        dueFrame("before it leaves", tree, 2, 12, 0, 1);
        due("before it leaves: the hand", tree.told(7), 2);
        due("before it leaves: written", tree.told(6), writes);
        tree.get(11);
        dueFrame("after it left", tree, 2, 8, 1, 0);
        due("after it left: written", tree.told(6), writes + 1);
        due("what left is kept", tree.get(17), 0);
        due("astray", tree.astray(), 0);
    }

    // ---- promises 13 and 14

    private static void toldAnswers() {
        PagedTree tree = grown(1, 11);
        dueTold("told", tree, 11, 7, 3, 8, 16, 1, 0, 8);
        int[] none = {MIN, -2, -1, 8, 9, MAX};
        for (int x : none) {
            due("told(" + x + ")", tree.told(x), NONE);
        }
        dueTold("told again", tree, 11, 7, 3, 8, 16, 1, 0, 8);
    }

    private static void nothingAstray() {
        PagedTree tree = new PagedTree();
        due("astray at first", tree.astray(), 0);
        for (int n = 0; n < 120; n++) {
            if (n < 80) {
                tree.put(n * 37 % 97, n);
            } else {
                tree.remove(n * 11 % 97);
            }
            due("astray after " + n, tree.astray(), 0);
        }
        int hits = tree.told(4);
        tree.astray();
        due("astray touches nothing", tree.told(4), hits);
        tree.seek(MIN);
        int key = tree.cursor(false);
        tree.astray();
        due("astray leaves the cursor", tree.cursor(false), key);
    }
}
