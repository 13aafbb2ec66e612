/** The sentences of the document about pages that have too much, or too little. */
public final class FullAndShortTest extends Look {
    private static final Class<UnsupportedOperationException> UNSUPPORTED = UnsupportedOperationException.class;

    public static void main(String[] args) {
        fourEntries();
        fifthEntry();
        newLeafComesNext();
        newChildRightBehind();
        fourChildren();
        fifthChild();
        innerPageRightBehind();
        leastFreePage();
        leafRootSplits();
        innerRootSplits();
        newPagesChange();
        leafChanges();
        pagesAreEnoughForOne();
        pagesAreEnoughForTwo();
        pagesAreEnoughBelowTheRoot();
        pagesAreTooFewForTheRoot();
        roomOnAFullDisk();
        twoAreNotShort();
        rootIsNotShort();
        leftLeafGives();
        leftLeafGivesBeforeTheRight();
        rightLeafGives();
        rightLeafGivesBesideALeftOfTwo();
        leafJoinsItsLeft();
        leafJoinsItsLeftBesideARight();
        rightLeafComes();
        marksStayWhenNoneIsShort();
        leftInnerGives();
        leftInnerGivesBeforeTheRight();
        rightInnerGives();
        rightInnerGivesBesideALeftOfTwo();
        innerJoinsItsLeft();
        innerJoinsItsLeftBesideARight();
        rightInnerComes();
        rootWithOneChildGoes();
        rootWithTwoChildrenStays();
        freePageHasNoFrame();
        freePageIsNotWritten();
        CHECK.end();
    }

    // ---- pages that split

    private static void fourEntries() {
        about("A leaf may have 4 entries");
        int[][] orders = {{10, 20, 30, 40}, {40, 30, 20, 10}, {30, 10, 40, 20}};
        for (int[] order : orders) {
            PagedTree tree = new PagedTree();
            putAll(tree, order);
            dueLeaf("four entries", tree, 0, NONE, 10, 20, 30, 40);
            dueTold("four entries", tree, 4, 0, 1, 1);
            due("a key that is there", tree.put(40, 1), false);
            due("no page splits then", tree.told(PAGES), 1);
        }
    }

    private static void fifthEntry() {
        about("if it has 5, it SPLITS: its first two stay, the others go to a new page");
        int[][] rows = {{5, 10, 20, 30, 40}, {10, 15, 20, 30, 40}, {10, 20, 25, 30, 40}, {10, 20, 30, 35, 40},
            {10, 20, 30, 40, 45}};
        for (int[] row : rows) {
            PagedTree tree = new PagedTree();
            putAll(tree, 10, 20, 30, 40);
            putAll(tree, row);
            dueLeaf("those that stay", tree, 0, 1, row[0], row[1]);
            dueLeaf("those that go", tree, 1, NONE, row[2], row[3], row[4]);
            dueInner("the mark is the first key of it", tree, 2, 0, row[2], 1);
            dueTold("five entries", tree, 5, 2, 2, 3);
            for (int key : row) {
                due("get(" + key + ")", tree.get(key), 10 * key);
            }
        }
    }

    private static void newLeafComesNext() {
        about("(of a leaf: that comes next to it, before what was next)");
        PagedTree first = grownBy(10, 10, 70);
        putAll(first, 11, 12, 13);
        dueLeaf("the first leaf splits", first, 0, 4, 10, 11);
        dueLeaf("the first leaf splits", first, 4, 1, 12, 13, 20);
        dueLeaf("the first leaf splits", first, 1, 3, 30, 40);
        PagedTree middle = grownBy(10, 10, 70);
        putAll(middle, 31, 32, 33);
        dueLeaf("a leaf between splits", middle, 0, 1, 10, 20);
        dueLeaf("a leaf between splits", middle, 1, 4, 30, 31);
        dueLeaf("a leaf between splits", middle, 4, 3, 32, 33, 40);
        dueLeaf("a leaf between splits", middle, 3, NONE, 50, 60, 70);
        PagedTree last = grownBy(10, 10, 90);
        dueLeaf("the last leaf splits", last, 1, 3, 30, 40);
        dueLeaf("the last leaf splits", last, 3, 4, 50, 60);
        dueLeaf("the last leaf splits", last, 4, NONE, 70, 80, 90);
    }

    private static void newChildRightBehind() {
        about("The new page is a child of the same parent, right behind it");
        PagedTree first = grownBy(10, 10, 70);
        putAll(first, 11, 12, 13);
        dueInner("behind the first child", first, 2, 0, 12, 4, 30, 1, 50, 3);
        PagedTree middle = grownBy(10, 10, 70);
        putAll(middle, 31, 32, 33);
        dueInner("behind a child between", middle, 2, 0, 30, 1, 32, 4, 50, 3);
        PagedTree last = grownBy(10, 10, 90);
        dueInner("behind the last child", last, 2, 0, 30, 1, 50, 3, 70, 4);
    }

    private static void fourChildren() {
        about("an inner page 4 children");
        PagedTree tree = grownBy(10, 10, 90);
        dueInner("four children", tree, 2, 0, 30, 1, 50, 3, 70, 4);
        dueTold("four children", tree, 9, 2, 2, 5);
        putAll(tree, 11, 12, 31, 32, 51, 52, 71);
        dueInner("four children, all full", tree, 2, 0, 30, 1, 50, 3, 70, 4);
        dueTold("four children, all full", tree, 16, 2, 2, 5);
    }

    private static void fifthChild() {
        about("(inner) that which the first of the children that went had, and has there no more");
        int[][] keys = {{11, 12, 13}, {31, 32, 33}, {51, 52, 53}, {71, 72}};
        int[][] left = {{0, 12, 5}, {0, 30, 1}, {0, 30, 1}, {0, 30, 1}};
        int[][] right = {{1, 50, 3, 70, 4}, {5, 50, 3, 70, 4}, {3, 52, 5, 70, 4}, {3, 70, 4, 72, 5}};
        int[] marks = {30, 32, 50, 50};
        for (int n = 0; n < keys.length; n++) {
            PagedTree tree = grownBy(10, 10, 90);
            putAll(tree, keys[n]);
            String name = "child " + n + " splits";
            dueInner(name, tree, 2, left[n]);
            dueInner(name, tree, 6, right[n]);
            dueInner(name, tree, 7, 2, marks[n], 6);
            dueTold(name, tree, 9 + keys[n].length, 7, 3, 8);
            due(name + ": astray", tree.astray(), 0);
        }
    }

    private static void innerPageRightBehind() {
        about("The new page is a child of the same parent, right behind it");
        PagedTree tree = grownBy(10, 10, 110);
        putAll(tree, 11, 12, 13, 31, 32, 33, 34);
        dueInner("four children", tree, 2, 0, 12, 8, 30, 1, 32, 9);
        tree.put(35, 350);
        dueInner("those that stay", tree, 2, 0, 12, 8);
        dueInner("those that went", tree, 11, 1, 32, 9, 34, 10);
        dueInner("the one beside it", tree, 6, 3, 70, 4, 90, 5);
        dueInner("the parent", tree, 7, 2, 30, 11, 50, 6);
        dueLeaf("the new leaf", tree, 10, 3, 34, 35, 40);
    }

    private static void leastFreePage() {
        about("a new page, the least that is free");
        PagedTree tree = grownBy(10, 10, 90);
        tree.remove(30);
        dueFree("a hole", tree, 1);
        dueLeaf("before the hole is filled", tree, 0, 3, 10, 20, 40);
        putAll(tree, 100, 110);
        dueLeaf("the one that split", tree, 4, 1, 70, 80);
        dueLeaf("the hole is filled", tree, 1, NONE, 90, 100, 110);
        dueInner("the parent", tree, 2, 0, 50, 3, 70, 4, 90, 1);
        due("the next page stays free", tree.page(5, 0), FREE);
    }

    private static void leafRootSplits() {
        about("If the root splits, a new root, the least page that is free then, has both as children.");
        PagedTree tree = grown(1, 5);
        due("the root", tree.told(ROOT), 2);
        due("levels", tree.told(LEVELS), 2);
        dueInner("the root", tree, 2, 0, 3, 1);
        dueFramePages("the new page is touched before the new root", tree, 0, 1, 2);
    }

    private static void innerRootSplits() {
        about("If the root splits, a new root, the least page that is free then, has both as children.");
        PagedTree tree = grown(1, 13);
        removeAll(tree, 1, 5, 6, 7, 8);
        dueInner("three children", tree, 2, 0, 9, 5, 11, 8);
        dueTold("three children", tree, 8, 2, 2, 4);
        putAll(tree, 14, 15, 16);
        dueInner("four children", tree, 2, 0, 9, 5, 11, 8, 13, 1);
        // Free are 3, 4, 6, 7 and from 9 on: for the leaf, the inner page and the root.
        tree.put(17, 170);
        dueLeaf("the new leaf", tree, 3, NONE, 15, 16, 17);
        dueInner("those that stay", tree, 2, 0, 9, 5);
        dueInner("those that went", tree, 4, 8, 13, 1, 15, 3);
        dueInner("the new root", tree, 6, 2, 11, 4);
        dueTold("the new root", tree, 12, 6, 3, 8);
        due("page 7", tree.page(7, 0), FREE);
    }

    private static void newPagesChange() {
        about("each new page is touched, then it, the one that splits, and the parent change");
        PagedTree tree = grown(1, 10);
        emptyFrames(tree);
        int read = tree.told(READ);
        tree.put(11, 110);
        // The way is 2 and 4; new are the leaf 5, the inner page 6 and the root 7.
        dueFramePages("from the leaf up", tree, 2, 4, 5, 6, 7);
        dueDirty("from the leaf up", tree, 2, 4, 5, 6, 7);
        due("those that were free are not read", tree.told(READ), read + 2);
        tree.put(12, 120);
        emptyFrames(tree);
        tree.put(13, 130);
        dueFramePages("without the root", tree, 7, 6, 5, 8);
        dueDirty("without the root", tree, 6, 5, 8);
    }

    private static void leafChanges() {
        about("A page that changes is dirty.");
        PagedTree tree = grown(1, 5);
        emptyFrames(tree);
        tree.put(5, 51);
        dueDirty("another value", tree, 1);
        tree.flush();
        tree.put(5, 51);
        dueDirty("the same value: put says that the leaf changes", tree, 1);
        tree.flush();
        tree.put(6, 60);
        dueDirty("a new entry", tree, 1);
        tree.flush();
        tree.remove(6);
        dueDirty("an entry that went", tree, 1);
        tree.flush();
        tree.remove(6);
        tree.get(5);
        tree.seek(1);
        tree.next();
        dueDirty("nothing changes", tree);
    }

    // ---- pages that are too few

    /** With 0, 10 .. 450 there are 37 pages; two leaves below page 2 split, then it has four children. */
    private static PagedTree with39Pages() {
        PagedTree tree = grownBy(10, 0, 450);
        putAll(tree, 1, 2, 3, 11, 12);
        dueInner("the first inner page", tree, 2, 0, 2, 37, 10, 38, 20, 1);
        due("pages", tree.told(PAGES), 39);
        return tree;
    }

    private static void pagesAreEnoughForOne() {
        about("UnsupportedOperation: there would be more pages than there are.");
        PagedTree tree = with39Pages();
        putAll(tree, 41, 42);
        due("put that needs the last page", tree.put(43, 430), true);
        due("all pages", tree.told(PAGES), 40);
        dueLeaf("the last page", tree, 39, 4, 42, 43, 50);
        putAll(tree, 61, 62);
        due("get(62)", tree.get(62), 620);
        dueThrow("put that needs one more", UNSUPPORTED, () -> tree.put(63, 630) ? 1 : 0);
        dueLeaf("nothing went in", tree, 4, 5, 60, 61, 62, 70);
        due("keys", tree.told(0), 56);
        due("astray", tree.astray(), 0);
        // The entry makes room for another one without a page.
        due("remove(62)", tree.remove(62), true);
        due("put then", tree.put(63, 630), true);
    }

    private static void pagesAreEnoughForTwo() {
        about("UnsupportedOperation: there would be more pages than there are.");
        PagedTree tree = with39Pages();
        tree.put(13, 130);
        dueThrow("put that needs two, with one free", UNSUPPORTED, () -> tree.put(14, 140) ? 1 : 0);
        due("pages then", tree.told(PAGES), 39);
        dueLeaf("nothing went in", tree, 38, 1, 10, 11, 12, 13);
        // Leaves join, then their parents 10 and 13, then theirs, 7 and 17.
        tree.remove(80);
        dueFree("joined", tree, 8);
        dueFree("joined", tree, 13);
        dueFree("joined", tree, 17);
        due("pages after remove(80)", tree.told(PAGES), 36);
        putAll(tree, 91, 92);
        putAll(tree, 161, 162, 163);
        due("pages with two free", tree.told(PAGES), 38);
        due("put that needs two, with two free", tree.put(14, 140), true);
        due("all pages", tree.told(PAGES), 40);
        dueLeaf("the new leaf", tree, 17, 1, 12, 13, 14);
        dueInner("those that stay", tree, 2, 0, 2, 37);
        dueInner("those that went", tree, 39, 38, 12, 17, 20, 1);
        due("astray", tree.astray(), 0);
    }

    /** The root has room, and all else on the way of 460 is full: a leaf and two inner pages split. */
    private static PagedTree fullBelowTheRoot() {
        PagedTree tree = grownBy(10, 0, 450);
        tree.remove(80);
        dueInner("the root", tree, 18, 7, 160, 25, 240, 32);
        due("pages after remove(80)", tree.told(PAGES), 34);
        putAll(tree, 91, 92);
        putAll(tree, 161, 162, 163);
        putAll(tree, 1, 2, 3);
        due("pages with three free", tree.told(PAGES), 37);
        return tree;
    }

    private static void pagesAreEnoughBelowTheRoot() {
        about("UnsupportedOperation: there would be more pages than there are.");
        PagedTree tree = fullBelowTheRoot();
        due("put that needs three, with three free", tree.put(460, 1), true);
        due("all pages", tree.told(PAGES), 40);
        dueLeaf("the new leaf", tree, 37, NONE, 440, 450, 460);
        dueInner("the new inner page", tree, 38, 34, 420, 36, 440, 37);
        dueInner("the other new one", tree, 39, 31, 360, 35, 400, 38);
        dueInner("the root", tree, 18, 7, 160, 25, 240, 32, 320, 39);
        due("levels", tree.told(LEVELS), 4);
        due("astray", tree.astray(), 0);
        PagedTree other = fullBelowTheRoot();
        putAll(other, 201, 202, 203);
        due("pages with two free", other.told(PAGES), 38);
        dueThrow("put that needs three, with two free", UNSUPPORTED, () -> other.put(460, 1) ? 1 : 0);
        dueLeaf("nothing went in", other, 36, NONE, 420, 430, 440, 450);
    }

    private static void pagesAreTooFewForTheRoot() {
        about("UnsupportedOperation: there would be more pages than there are.");
        PagedTree tree = grownBy(10, 0, 450);
        dueTold("four levels", tree, 46, 18, 4, 37);
        dueLeaf("the last leaf is full", tree, 36, NONE, 420, 430, 440, 450);
        dueThrow("put that needs five, with three free", UNSUPPORTED, () -> tree.put(460, 1) ? 1 : 0);
        dueThrow("put of MAX", UNSUPPORTED, () -> tree.put(MAX, 1) ? 1 : 0);
        dueTold("no page is taken", tree, 46, 18, 4, 37);
        dueLeaf("nothing went in", tree, 36, NONE, 420, 430, 440, 450);
        due("put of a key that is there", tree.put(450, -1), false);
        due("its value", tree.get(450), -1);
        due("remove of one", tree.remove(430), true);
        due("put in its place", tree.put(460, 1), true);
        dueLeaf("it went in", tree, 36, NONE, 420, 440, 450, 460);
    }

    private static void roomOnAFullDisk() {
        about("UnsupportedOperation: there would be more pages than there are.");
        PagedTree tree = with39Pages();
        putAll(tree, 41, 42, 43);
        due("all pages", tree.told(PAGES), 40);
        due("a key that is there", tree.put(20, 5), false);
        due("its value", tree.get(20), 5);
        due("a leaf with room", tree.put(21, 210), true);
        due("the same leaf", tree.put(22, 220), true);
        dueThrow("the same leaf, full", UNSUPPORTED, () -> tree.put(23, 230) ? 1 : 0);
        due("pages", tree.told(PAGES), 40);
    }

    // ---- pages that are short

    private static void twoAreNotShort() {
        about("A page but the root is SHORT with less than two entries, or children.");
        PagedTree tree = grown(1, 5);
        emptyFrames(tree);
        due("remove(5)", tree.remove(5), true);
        dueLeaf("two entries", tree, 1, NONE, 3, 4);
        dueFramePages("the one beside it is not touched", tree, 2, 1);
        dueDirty("only the leaf changes", tree, 1);
        PagedTree other = grown(1, 11);
        emptyFrames(other);
        removeAll(other, 11, 10);
        dueInner("two children", other, 6, 3, 7, 4);
        dueInner("the root", other, 7, 2, 5, 6);
        dueFramePages("the inner page beside it is not touched", other, 7, 6, NONE, 4);
        dueDirty("the root does not change", other, 6, 4);
    }

    private static void rootIsNotShort() {
        about("A page but the root is SHORT with less than two entries, or children.");
        PagedTree tree = grown(1, 2);
        due("remove(1)", tree.remove(1), true);
        dueLeaf("a root with one entry", tree, 0, NONE, 2);
        due("remove(2)", tree.remove(2), true);
        dueLeaf("a root with none", tree, 0, NONE);
        due("hits", tree.told(HITS), 3);
    }

    private static void leftLeafGives() {
        about("its LEFT one, with more than two, that GIVES its last");
        PagedTree three = grown(0, 4);
        three.put(-1, -10);
        removeAll(three, 4, 3);
        dueLeaf("the left one of three", three, 0, 1, -1, 0);
        dueLeaf("what it gave", three, 1, NONE, 1, 2);
        due("the value goes with it", three.item(1, 0, true), 10);
        about("When a leaf gives to another one, the mark of the right one of both is its first key then.");
        dueInner("the left one of three", three, 2, 0, 1, 1);
        about("its LEFT one, with more than two, that GIVES its last");
        PagedTree four = grown(1, 5);
        putAll(four, 0, -1);
        removeAll(four, 5);
        emptyFrames(four);
        four.remove(4);
        dueLeaf("the left one of four", four, 0, 1, -1, 0, 1);
        dueLeaf("what it gave", four, 1, NONE, 2, 3);
        dueInner("its mark", four, 2, 0, 2, 1);
        dueFramePages("touched", four, 2, 1, 0);
        dueDirty("changed", four, 0, 1, 2);
        due("pages", four.told(PAGES), 3);
    }

    private static void leftLeafGivesBeforeTheRight() {
        about("if that does not give, its right one, if there is one");
        PagedTree tree = grown(1, 8);
        tree.put(0, 0);
        emptyFrames(tree);
        tree.remove(3);
        dueLeaf("the left one gave", tree, 0, 1, 0, 1);
        dueLeaf("the left one gave", tree, 1, 3, 2, 4);
        dueLeaf("the right one has all of its four", tree, 3, NONE, 5, 6, 7, 8);
        dueInner("marks", tree, 2, 0, 2, 1, 5, 3);
        dueFramePages("the right one is not touched", tree, 2, 1, 0);
    }

    private static void rightLeafGives() {
        about("its RIGHT one, with more than two, that gives its first");
        PagedTree three = grown(1, 5);
        emptyFrames(three);
        three.remove(2);
        dueLeaf("the right one of three", three, 0, 1, 1, 3);
        dueLeaf("the right one of three", three, 1, NONE, 4, 5);
        dueFramePages("touched", three, 2, 0, 1);
        dueDirty("changed", three, 0, 1, 2);
        about("When a leaf gives to another one, the mark of the right one of both is its first key then.");
        dueInner("the right one of three", three, 2, 0, 4, 1);
        due("the value goes with it", three.item(0, 1, true), 30);
        PagedTree four = grown(1, 6);
        four.remove(1);
        dueLeaf("the right one of four", four, 0, 1, 2, 3);
        dueLeaf("the right one of four", four, 1, NONE, 4, 5, 6);
        dueInner("its mark", four, 2, 0, 4, 1);
    }

    private static void rightLeafGivesBesideALeftOfTwo() {
        about("its RIGHT one, with more than two, that gives its first");
        PagedTree tree = grown(1, 7);
        emptyFrames(tree);
        tree.remove(4);
        dueLeaf("the left one has two", tree, 0, 1, 1, 2);
        dueLeaf("the one that got", tree, 1, 3, 3, 5);
        dueLeaf("the one that gave", tree, 3, NONE, 6, 7);
        dueInner("marks", tree, 2, 0, 3, 1, 6, 3);
        dueFramePages("the left one is touched first", tree, 2, 1, 0, 3);
        dueDirty("the left one does not change", tree, 1, 2, 3);
    }

    private static void leafJoinsItsLeft() {
        about("else it JOINS: all of it goes behind what its left one has");
        PagedTree tree = grown(1, 9);
        tree.remove(9);
        emptyFrames(tree);
        tree.remove(7);
        dueLeaf("the left one has all", tree, 3, NONE, 5, 6, 8);
        dueInner("the parent", tree, 2, 0, 3, 1, 5, 3);
        dueFree("the one that joined", tree, 4);
        dueDirty("changed", tree, 3, 2);
        due("pages", tree.told(PAGES), 4);
        due("what joined is found", tree.get(8), 80);
    }

    private static void leafJoinsItsLeftBesideARight() {
        about("(the next of a leaf is then told by the one before it)");
        PagedTree tree = grown(1, 9);
        emptyFrames(tree);
        int read = tree.told(READ);
        tree.remove(3);
        due("the way and both beside it are read", tree.told(READ), read + 4);
        dueLeaf("the left one has all", tree, 0, 3, 1, 2, 4);
        dueFree("the one that joined", tree, 1);
        dueInner("no child any more", tree, 2, 0, 5, 3, 7, 4);
        dueLeaf("the right one", tree, 3, 4, 5, 6);
        dueFramePages("the right one is touched", tree, 2, NONE, 0, 3);
        dueDirty("the right one does not change", tree, 2, 0);
        due("seek(4)", tree.seek(4), true);
        due("next()", tree.next(), true);
        dueCursor("next()", tree, 5, 50);
    }

    private static void rightLeafComes() {
        about("without a left one, all of its right one comes behind its own");
        PagedTree tree = grown(1, 9);
        emptyFrames(tree);
        tree.remove(2);
        dueLeaf("it has all", tree, 0, 3, 1, 3, 4);
        dueFree("the right one", tree, 1);
        dueInner("no child any more", tree, 2, 0, 5, 3, 7, 4);
        dueFramePages("touched", tree, 2, 0);
        dueDirty("changed", tree, 2, 0);
        due("what came is found", tree.get(3), 30);
    }

    private static void marksStayWhenNoneIsShort() {
        about("each but its first one has a MARK there, a key");
        PagedTree tree = grown(1, 5);
        tree.remove(3);
        dueInner("the key of the mark went", tree, 2, 0, 3, 1);
        due("put of it", tree.put(3, 31), true);
        dueLeaf("it goes where its mark says", tree, 1, NONE, 3, 4, 5);
        PagedTree other = grownBy(10, 10, 50);
        other.remove(30);
        other.put(30 - 1, 1);
        dueLeaf("one below the mark goes before it", other, 0, 1, 10, 20, 29);
    }

    // ---- inner pages that are short

    private static void leftInnerGives() {
        about("what was first in the right one has the mark now that the right one had,"
                + " and that has the mark that the child that is given had");
        PagedTree tree = grown(1, 11);
        putAll(tree, 0, -1, -2);
        dueInner("three children", tree, 2, 0, 0, 8, 3, 1);
        removeAll(tree, 11, 10, 5);
        dueInner("two children", tree, 6, 3, 8, 4);
        emptyFrames(tree);
        tree.remove(6);
        dueInner("the one that gave", tree, 2, 0, 0, 8);
        dueInner("the one that got", tree, 6, 1, 5, 3);
        dueInner("the parent", tree, 7, 2, 3, 6);
        dueFree("the leaf that joined", tree, 4);
        dueDirty("changed", tree, 3, 6, 2, 7);
        due("astray", tree.astray(), 0);
    }

    private static void leftInnerGivesBeforeTheRight() {
        about("if that does not give, its right one, if there is one");
        PagedTree tree = grown(1, 15);
        putAll(tree, 0, -1, -2);
        dueInner("three children", tree, 2, 0, 0, 11, 3, 1);
        emptyFrames(tree);
        tree.remove(5);
        dueInner("the left one gave", tree, 2, 0, 0, 11);
        dueInner("it got", tree, 6, 1, 5, 3);
        dueInner("the right one has all", tree, 10, 5, 11, 8, 13, 9);
        dueInner("the parent", tree, 7, 2, 3, 6, 9, 10);
        // 4 had the fourth frame; the left one comes after it.
        dueFramePages("the right one is not touched", tree, 7, 6, 3, NONE, 2);
        dueDirty("changed", tree, 7, 6, 3, 2);
    }

    private static void rightInnerGives() {
        about("the child that is given has the mark that the right one had,"
                + " and that has the mark that its first child now had");
        PagedTree tree = grown(1, 11);
        emptyFrames(tree);
        tree.remove(1);
        dueInner("the one that got", tree, 2, 0, 5, 3);
        dueInner("the one that gave", tree, 6, 4, 9, 5);
        dueInner("the parent", tree, 7, 2, 7, 6);
        dueDirty("changed", tree, 0, 2, 6, 7);
        due("get(5)", tree.get(5), 50);
        due("get(7)", tree.get(7), 70);
    }

    private static void rightInnerGivesBesideALeftOfTwo() {
        about("its RIGHT one, with more than two, that gives its first");
        PagedTree tree = grown(1, 15);
        emptyFrames(tree);
        tree.remove(5);
        dueInner("the left one has two", tree, 2, 0, 3, 1);
        dueInner("the one that got", tree, 6, 3, 9, 5);
        dueInner("the one that gave", tree, 10, 8, 13, 9);
        dueInner("the parent", tree, 7, 2, 5, 6, 11, 10);
        dueFramePages("the left one is touched first", tree, 7, 6, 3, NONE, 2, 10);
        dueDirty("the left one does not change", tree, 7, 6, 3, 10);
    }

    private static void innerJoinsItsLeft() {
        about("When inner pages join, the first child of the right one has the mark that that page had.");
        PagedTree tree = grown(1, 11);
        removeAll(tree, 11, 10);
        dueInner("before", tree, 6, 3, 7, 4);
        tree.remove(7);
        dueLeaf("a leaf with two", tree, 4, NONE, 8, 9);
        emptyFrames(tree);
        tree.remove(8);
        // 4 joins 3; then 6 has one child and joins 2; then the root has one child.
        dueLeaf("the leaf that has all", tree, 3, NONE, 5, 6, 9);
        dueInner("the inner page that has all", tree, 2, 0, 3, 1, 5, 3);
        dueFree("the leaf", tree, 4);
        dueFree("the inner page", tree, 6);
        dueFree("the root", tree, 7);
        dueTold("then", tree, 7, 2, 2, 4);
        dueDirty("changed", tree, 3, 2);
    }

    private static void innerJoinsItsLeftBesideARight() {
        about("When inner pages join, the first child of the right one has the mark that that page had.");
        PagedTree tree = grown(1, 15);
        removeAll(tree, 15, 14);
        dueInner("two children", tree, 10, 5, 11, 8);
        emptyFrames(tree);
        tree.remove(5);
        dueInner("the left one has all", tree, 2, 0, 3, 1, 5, 3);
        dueFree("the one that joined", tree, 6);
        dueInner("the right one", tree, 10, 5, 11, 8);
        dueInner("the root", tree, 7, 2, 9, 10);
        dueFramePages("the right one is touched", tree, 7, NONE, 3, NONE, 2, 10);
        dueDirty("the right one does not change", tree, 7, 3, 2);
    }

    private static void rightInnerComes() {
        about("When inner pages join, the first child of the right one has the mark that that page had.");
        PagedTree tree = grown(1, 15);
        emptyFrames(tree);
        tree.remove(1);
        dueInner("all of the right one came", tree, 2, 0, 5, 3, 7, 4);
        dueFree("the right one", tree, 6);
        dueInner("the root", tree, 7, 2, 9, 10);
        due("levels", tree.told(LEVELS), 3);
        dueDirty("changed", tree, 7, 2, 0);
        due("get(5)", tree.get(5), 50);
        due("astray", tree.astray(), 0);
    }

    // ---- roots that go, and pages that are free

    private static void rootWithOneChildGoes() {
        about("An inner root with one child goes: its page is free, the child is the root.");
        PagedTree tree = grown(1, 5);
        removeAll(tree, 5, 4);
        dueTold("the child is a leaf", tree, 3, 0, 1, 1);
        dueFree("the root that went", tree, 2);
        dueLeaf("the root", tree, 0, NONE, 1, 2, 3);
        PagedTree other = grown(1, 11);
        removeAll(other, 11, 10);
        other.remove(2);
        dueTold("the child is an inner page", other, 8, 2, 2, 4);
        dueFree("the root that went", other, 7);
        dueInner("the root", other, 2, 0, 5, 3, 7, 4);
    }

    private static void rootWithTwoChildrenStays() {
        about("An inner root with one child goes: its page is free, the child is the root.");
        PagedTree tree = grown(1, 7);
        tree.remove(4);
        tree.remove(5);
        dueInner("a root with two children", tree, 2, 0, 6, 3);
        dueTold("a root with two children", tree, 5, 2, 2, 3);
    }

    private static void freePageHasNoFrame() {
        about("A page that is free has no frame.");
        PagedTree tree = grown(1, 5);
        tree.remove(5);
        dueFrame("a leaf", tree, 1, 1, 1, 1);
        dueFrame("the root", tree, 2, 2, 1, 1);
        tree.remove(4);
        dueFrame("the leaf that joined", tree, 1, NONE, 0, 0);
        dueFrame("the root that went", tree, 2, NONE, 0, 0);
        dueFrame("the leaf that has all", tree, 0, 0, 1, 1);
        due("the hand stays", tree.told(HAND), 3);
        tree.flush();
        due("drop() finds one", tree.drop(), 1);
    }

    private static void freePageIsNotWritten() {
        about("A page that is free has no frame.");
        PagedTree tree = grown(1, 5);
        removeAll(tree, 5, 4);
        due("written", tree.told(WRITTEN), 0);
        due("flush() writes the leaf alone", tree.flush(), 1);
        due("written then", tree.told(WRITTEN), 1);
        int read = tree.told(READ);
        putAll(tree, 4, 5);
        due("pages that were free are not read", tree.told(READ), read);
        dueFramePages("they take the frames at the hand", tree, 0, NONE, NONE, 1, 2);
    }
}
