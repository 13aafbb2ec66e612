/**
 * The sentences that several promises stand on at once, in trees of four levels, the highest that 40
 * pages have room for: ways, and the order of what is touched. Frames that were emptied are taken from
 * the first one on, so that they tell in which order pages were touched.
 */
public final class FourLevelsTest extends Look {
    private static final String WAY = "THE WAY of a key: from the root, if that is inner, by its last child whose mark"
            + " is not above the key, or else its first child, and so on, to a leaf.";
    private static final String SPLIT = "from the leaf up: each new page is touched, then it, the one that splits,"
            + " and the parent change.";
    private static final String SHORT = "for a page that is short its left one is touched, if there is one; if that"
            + " does not give, its right one, if there is one; those that give, get, or join, and the parent, change.";

    public static void main(String[] args) {
        waysOfKeys();
        eachCallGoesItsWay();
        threeSplitAndTheRoot();
        threeSplitBelowTheRoot();
        threeJoinBelowTheRoot();
        twoJoinAndTheRightGives();
        oneJoinsAndTheLeftGives();
        threeJoinAndTheRootGoes();
        freeAgainAtTheOtherEnd();
        cursorGoesOverAllParents();
        allKeysInTurn();
        CHECK.end();
    }

    /**
     * Root 18 (7, 17 from 80 on); 7 (2, 6 from 40 on), 17 (10, 13 from 120 on, 16 from 160 on);
     * 2 (0 1), 6 (3 4), 10 (5 8), 13 (9 11), 16 (12 14 15); two keys in each leaf, three in the last.
     */
    private static PagedTree nineteenPages() {
        PagedTree tree = grownBy(10, 0, 220);
        emptyFrames(tree);
        return tree;
    }

    // ---- ways

    private static void waysOfKeys() {
        about(WAY);
        PagedTree tree = nineteenPages();
        dueInner("the root", tree, 18, 7, 80, 17);
        dueInner("its first child", tree, 7, 2, 40, 6);
        dueInner("its last child", tree, 17, 10, 120, 13, 160, 16);
        int[] keys = {0, 30, 40, 70, 80, 110, 120, 150, 160, 190, 200, 220};
        int[][] ways = {{7, 2, 0}, {7, 2, 1}, {7, 6, 3}, {7, 6, 4}, {17, 10, 5}, {17, 10, 8}, {17, 13, 9},
            {17, 13, 11}, {17, 16, 12}, {17, 16, 14}, {17, 16, 15}, {17, 16, 15}};
        for (int n = 0; n < keys.length; n++) {
            tree.drop();
            due("get(" + keys[n] + ")", tree.get(keys[n]), 10 * keys[n]);
            dueFramePages("the way of " + keys[n], tree, 18, ways[n][0], ways[n][1], ways[n][2]);
        }
    }

    private static void eachCallGoesItsWay() {
        about(WAY);
        PagedTree tree = nineteenPages();
        due("seek(MIN)", tree.seek(MIN), true);
        dueFramePages("seek(MIN)", tree, 18, 7, 2, 0);
        tree.drop();
        due("seek(MAX)", tree.seek(MAX), false);
        dueFramePages("seek(MAX)", tree, 18, 17, 16, 15);
        tree.drop();
        due("remove(119)", tree.remove(119), false);
        dueFramePages("remove(119)", tree, 18, 17, 10, 8);
        dueDirty("remove(119)", tree);
        tree.drop();
        due("remove(210)", tree.remove(210), true);
        dueFramePages("remove(210)", tree, 18, 17, 16, 15);
        dueDirty("remove(210)", tree, 15);
        emptyFrames(tree);
        due("put(79, 1)", tree.put(79, 1), true);
        dueFramePages("put(79, 1)", tree, 18, 7, 6, 4);
        dueDirty("put(79, 1)", tree, 4);
        emptyFrames(tree);
        due("put(80, 1)", tree.put(80, 1), false);
        dueFramePages("put(80, 1)", tree, 18, 17, 10, 5);
        dueDirty("put(80, 1)", tree, 5);
    }

    // ---- pages that split

    private static void threeSplitAndTheRoot() {
        about(SPLIT);
        PagedTree tree = grownBy(10, 0, 210);
        dueLeaf("before", tree, 14, NONE, 180, 190, 200, 210);
        dueInner("before", tree, 13, 9, 140, 11, 160, 12, 180, 14);
        dueInner("before", tree, 7, 2, 40, 6, 80, 10, 120, 13);
        emptyFrames(tree);
        int read = tree.told(READ);
        due("put(220, 2200)", tree.put(220, 2200), true);
        dueFramePages("the way, then the new ones", tree, 7, 13, 14, 15, 16, 17, 18);
        dueDirty("all change", tree, 7, 13, 14, 15, 16, 17, 18);
        due("only the way is read", tree.told(READ), read + 3);
        dueLeaf("the leaf", tree, 14, 15, 180, 190);
        dueLeaf("the new leaf", tree, 15, NONE, 200, 210, 220);
        dueInner("its parent", tree, 13, 9, 140, 11);
        dueInner("the new one beside it", tree, 16, 12, 180, 14, 200, 15);
        dueInner("what was the root", tree, 7, 2, 40, 6);
        dueInner("the new one beside it", tree, 17, 10, 120, 13, 160, 16);
        dueInner("the new root", tree, 18, 7, 80, 17);
        dueTold("then", tree, 23, 18, 4, 19);
    }

    private static void threeSplitBelowTheRoot() {
        about(SPLIT);
        PagedTree tree = grownBy(10, 0, 290);
        dueInner("before", tree, 17, 10, 120, 13, 160, 16, 200, 21);
        dueInner("before", tree, 21, 15, 220, 19, 240, 20, 260, 22);
        dueLeaf("before", tree, 22, NONE, 260, 270, 280, 290);
        emptyFrames(tree);
        due("put(300, 3000)", tree.put(300, 3000), true);
        dueFramePages("the way, then the new ones", tree, 18, 17, 21, 22, 23, 24, 25);
        dueDirty("all change", tree, 18, 17, 21, 22, 23, 24, 25);
        dueLeaf("the new leaf", tree, 23, NONE, 280, 290, 300);
        dueInner("its parent", tree, 21, 15, 220, 19);
        dueInner("the new one beside it", tree, 24, 20, 260, 22, 280, 23);
        dueInner("that one's parent", tree, 17, 10, 120, 13);
        dueInner("the new one beside that", tree, 25, 16, 200, 21, 240, 24);
        dueInner("the root", tree, 18, 7, 80, 17, 160, 25);
        due("levels", tree.told(LEVELS), 4);
    }

    // ---- pages that are short

    private static void threeJoinBelowTheRoot() {
        about(SHORT);
        PagedTree tree = grownBy(10, 0, 450);
        dueInner("the root", tree, 18, 7, 80, 17, 160, 25, 240, 32);
        emptyFrames(tree);
        int read = tree.told(READ);
        due("remove(80)", tree.remove(80), true);
        // The way 18 17 10 5; 8 comes to 5; 13 comes to 10; 17 goes to 7, and 25 gives none.
        dueFramePages("touched", tree, 18, NONE, 10, 5, NONE, NONE, 7, 25);
        dueDirty("25 does not change", tree, 18, 10, 5, 7);
        due("read", tree.told(READ), read + 8);
        due("the hand", tree.told(HAND), 8);
        dueLeaf("the leaf", tree, 5, 9, 90, 100, 110);
        dueInner("its parent", tree, 10, 5, 120, 9, 140, 11);
        dueInner("that one's left one", tree, 7, 2, 40, 6, 80, 10);
        dueInner("the root", tree, 18, 7, 160, 25, 240, 32);
        dueFree("joined", tree, 8);
        dueFree("joined", tree, 13);
        dueFree("joined", tree, 17);
        due("none of them is written", tree.flush(), 4);
    }

    private static void twoJoinAndTheRightGives() {
        about(SHORT);
        PagedTree tree = nineteenPages();
        due("remove(0)", tree.remove(0), true);
        // The way 18 7 2 0; 1 comes to 0; 6 comes to 2; 17 gives 10 to 7.
        dueFramePages("touched", tree, 18, 7, 2, 0, NONE, NONE, 17);
        dueDirty("changed", tree, 18, 7, 2, 0, 17);
        dueLeaf("the leaf", tree, 0, 3, 10, 20, 30);
        dueInner("its parent", tree, 2, 0, 40, 3, 60, 4);
        dueInner("the one that got", tree, 7, 2, 80, 10);
        dueInner("the one that gave", tree, 17, 13, 160, 16);
        dueInner("the root", tree, 18, 7, 120, 17);
        due("keys below what was given are found", tree.get(100), 1000);
    }

    private static PagedTree afterTheRightGave() {
        PagedTree tree = nineteenPages();
        tree.remove(0);
        emptyFrames(tree);
        return tree;
    }

    private static void oneJoinsAndTheLeftGives() {
        about(SHORT);
        PagedTree tree = afterTheRightGave();
        due("remove(80)", tree.remove(80), true);
        // The way 18 7 10 5; 8 comes to 5; 2 gives 4 to 10.
        dueFramePages("touched", tree, 18, 7, 10, 5, NONE, 2);
        dueDirty("the root does not change", tree, 7, 10, 5, 2);
        dueLeaf("the leaf", tree, 5, 9, 90, 100, 110);
        dueInner("the one that gave", tree, 2, 0, 40, 3);
        dueInner("the one that got", tree, 10, 4, 80, 5);
        dueInner("their parent", tree, 7, 2, 60, 10);
        dueInner("the root", tree, 18, 7, 120, 17);
    }

    private static PagedTree afterThreeJoined() {
        PagedTree tree = afterTheRightGave();
        removeAll(tree, 80, 60);
        dueLeaf("before", tree, 4, 5, 70, 90);
        dueLeaf("before", tree, 5, 9, 100, 110);
        dueInner("before", tree, 10, 4, 100, 5);
        emptyFrames(tree);
        due("remove(70)", tree.remove(70), true);
        return tree;
    }

    private static void threeJoinAndTheRootGoes() {
        about(SHORT);
        PagedTree tree = afterThreeJoined();
        // The way 18 7 10 4; 5 comes to 4; 10 goes to 2; 17 comes to 7, the root then.
        dueFramePages("touched", tree, NONE, 7, NONE, 4, NONE, 2, NONE);
        dueDirty("changed", tree, 7, 4, 2);
        due("the hand", tree.told(HAND), 7);
        dueLeaf("the leaf", tree, 4, 9, 90, 100, 110);
        dueInner("its parent", tree, 2, 0, 40, 3, 60, 4);
        dueInner("the root", tree, 7, 2, 120, 13, 160, 16);
        dueTold("then", tree, 19, 7, 3, 12);
        int[] gone = {1, 5, 6, 8, 10, 17, 18};
        for (int page : gone) {
            dueFree("gone", tree, page);
        }
        due("astray", tree.astray(), 0);
    }

    private static void freeAgainAtTheOtherEnd() {
        about("the others go to a new page, the least that is free, in the same order");
        PagedTree tree = afterThreeJoined();
        putAll(tree, 230, 240);
        dueLeaf("the last leaf splits with page 1", tree, 15, 1, 200, 210);
        dueLeaf("the last leaf splits with page 1", tree, 1, NONE, 220, 230, 240);
        dueInner("its parent has four children", tree, 16, 12, 180, 14, 200, 15, 220, 1);
        emptyFrames(tree);
        putAll(tree, 250, 260);
        dueLeaf("the next leaf is page 5", tree, 5, NONE, 240, 250, 260);
        dueInner("the next inner page is page 6", tree, 6, 15, 220, 1, 240, 5);
        dueInner("the root has four children", tree, 7, 2, 120, 13, 160, 16, 200, 6);
        dueFramePages("touched", tree, 7, 16, 1, 5, 6);
        due("pages", tree.told(PAGES), 15);
    }

    // ---- the cursor

    private static void cursorGoesOverAllParents() {
        about("Its leaf is touched; if it was at its last entry, the next one, if there is one.");
        PagedTree tree = nineteenPages();
        due("seek(70)", tree.seek(70), true);
        dueFramePages("seek(70)", tree, 18, 7, 6, 4);
        int hits = tree.told(HITS);
        due("next()", tree.next(), true);
        dueCursor("next()", tree, 80, 800);
        dueFramePages("no page above the next leaf is touched", tree, 18, 7, 6, 4, 5);
        due("its leaf is hit", tree.told(HITS), hits + 1);
        tree.drop();
        about("if its leaf has no such key, the next one, if there is one");
        due("seek(71)", tree.seek(71), true);
        dueCursor("seek(71)", tree, 80, 800);
        dueFramePages("seek(71)", tree, 18, 7, 6, 4, 5);
        due("next() of the leaf it came to", tree.next(), true);
        dueCursor("next() of the leaf it came to", tree, 90, 900);
        dueFramePages("its leaf is in a frame", tree, 18, 7, 6, 4, 5);
    }

    private static void allKeysInTurn() {
        about("The cursor goes on by one key: whether there is one (else it has ended).");
        PagedTree tree = grownBy(10, 0, 450);
        emptyFrames(tree);
        int read = tree.told(READ);
        int count = 0;
        for (boolean on = tree.seek(MIN); on; on = tree.next()) {
            dueCursor("key " + count, tree, 10 * count, 100 * count);
            count++;
        }
        due("keys", count, 46);
        dueEnded("behind the last one", tree);
        // Each of the 22 leaves comes once, and the three pages above the first one.
        due("read", tree.told(READ), read + 25);
    }
}
