/** The sentences of the document that name what is too small or too large. */
public final class RangesTest extends Look {
    private static final Class<IndexOutOfBoundsException> OUT = IndexOutOfBoundsException.class;
    private static final Class<IllegalArgumentException> ILLEGAL = IllegalArgumentException.class;

    /** The long ones, times five items, come round to a place that there is. */
    private static final int[] NO_PAGES = {MIN, MIN + 1, -858993459, -40, -2, -1, 40, 41, 64, 128, 256, 65536,
        858993459, 858993460, 1717986919, MAX - 1, MAX};
    private static final int[] NO_FRAMES = {MIN, MIN + 1, -12, -2, -1, 12, 13, 16, 24, 40, 256, 65536, MAX - 1, MAX};
    private static final int[] NO_WHATS = {MIN, MIN + 1, -3, -2, -1, 3, 4, 7, 256, 257, 65536, MAX - 1, MAX};

    public static void main(String[] args) {
        noneIsMinusOne();
        pagesAre0To39();
        lastPageIsUsed();
        framesAre0To11();
        lastFrameIsUsed();
        noSuchPage();
        noSuchItem();
        noSuchFrame();
        whatOfPage();
        whatOfFrame();
        bothAreWrong();
        itemWhenThereIsNone();
        itemThatWent();
        toldOfAnother();
        lastOf512Calls();
        CHECK.end();
    }

    /** 38 pages, then 39, then all 40: each of three leaves splits below a parent that has room. */
    private static PagedTree fullDisk() {
        PagedTree tree = grownBy(10, 0, 450);
        putAll(tree, 1, 2, 3);
        putAll(tree, 11, 12);
        putAll(tree, 41, 42, 43);
        return tree;
    }

    private static void noneIsMinusOne() {
        about("public static final int NONE = -1");
        due("NONE", PagedTree.NONE, -1);
    }

    private static void pagesAre0To39() {
        about("PAGES are 0 .. 39");
        PagedTree tree = new PagedTree();
        due("the first: what it is", tree.page(0, 0), LEAF);
        due("the first: entries", tree.page(0, 1), 0);
        due("the first: next", tree.page(0, 2), NONE);
        due("the last: what it is", tree.page(39, 0), FREE);
        due("the last: entries", tree.page(39, 1), 0);
        due("the last: next", tree.page(39, 2), NONE);
        dueThrow("page(-1, 0)", OUT, () -> tree.page(-1, 0));
        dueThrow("page(40, 0)", OUT, () -> tree.page(40, 0));
    }

    private static void lastPageIsUsed() {
        about("PAGES are 0 .. 39");
        PagedTree tree = fullDisk();
        due("pages that are not free", tree.told(PAGES), 40);
        for (int page = 0; page < 40; page++) {
            due("page " + page + " is free", tree.page(page, 0) == FREE, false);
        }
        dueLeaf("the last one", tree, 39, 4, 42, 43, 50);
        due("the last one: value", tree.item(39, 2, true), 500);
        due("get through the last one", tree.get(43), 430);
        dueThrow("page(40, 0)", OUT, () -> tree.page(40, 0));
        dueThrow("item(40, 0, false)", OUT, () -> tree.item(40, 0, false));
    }

    private static void framesAre0To11() {
        about("FRAMES are 0 .. 11");
        PagedTree tree = new PagedTree();
        dueFrame("the first", tree, 0, NONE, 0, 0);
        dueFrame("the last", tree, 11, NONE, 0, 0);
        dueThrow("frame(-1, 0)", OUT, () -> tree.frame(-1, 0));
        dueThrow("frame(12, 0)", OUT, () -> tree.frame(12, 0));
    }

    private static void lastFrameIsUsed() {
        about("FRAMES are 0 .. 11");
        // The new pages come in their order, and each takes the next frame.
        PagedTree tree = grown(1, 15);
        due("eleven pages", tree.told(PAGES), 11);
        dueFrame("with eleven pages", tree, 10, 10, 1, 1);
        dueFrame("with eleven pages", tree, 11, NONE, 0, 0);
        due("with eleven pages: the hand", tree.told(HAND), 11);
        putAll(tree, 16, 17);
        due("twelve pages", tree.told(PAGES), 12);
        dueFrame("with twelve pages", tree, 11, 11, 1, 1);
        due("with twelve pages: the hand", tree.told(HAND), 0);
        due("with twelve pages: written", tree.told(WRITTEN), 0);
        due("all twelve are dirty", tree.flush(), 12);
        due("all twelve have a page", tree.drop(), 12);
    }

    private static void noSuchPage() {
        about("IndexOutOfBounds: there is no such page, frame, or item.");
        PagedTree tree = grown(1, 11);
        for (int x : NO_PAGES) {
            for (int w = 0; w < 3; w++) {
                int what = w;
                dueThrow("page(" + x + ", " + what + ")", OUT, () -> tree.page(x, what));
            }
            for (int k = 0; k < 5; k++) {
                int i = k;
                dueThrow("item(" + x + ", " + i + ", false)", OUT, () -> tree.item(x, i, false));
                dueThrow("item(" + x + ", " + i + ", true)", OUT, () -> tree.item(x, i, true));
            }
        }
    }

    private static void noSuchItem() {
        about("IndexOutOfBounds: there is no such page, frame, or item.");
        // 0 is a leaf with two entries, 5 one with four, 6 an inner page with three children.
        PagedTree tree = grown(1, 12);
        due("the last entry of two", tree.item(0, 1, false), 2);
        due("the last entry of four", tree.item(5, 3, true), 120);
        due("the last child of three", tree.item(6, 2, true), 5);
        int[] pages = {0, 5, 6};
        int[] sizes = {2, 4, 3};
        for (int n = 0; n < pages.length; n++) {
            int page = pages[n];
            int[] noItems = {MIN, MIN + 1, -5, -1, sizes[n], sizes[n] + 1, 5, 6, 10, 256, 65536, MAX - 1, MAX};
            for (int i : noItems) {
                dueThrow("item(" + page + ", " + i + ", false)", OUT, () -> tree.item(page, i, false));
                dueThrow("item(" + page + ", " + i + ", true)", OUT, () -> tree.item(page, i, true));
            }
        }
    }

    private static void noSuchFrame() {
        about("IndexOutOfBounds: there is no such page, frame, or item.");
        PagedTree tree = grown(1, 19);
        for (int x : NO_FRAMES) {
            for (int w = 0; w < 3; w++) {
                int what = w;
                dueThrow("frame(" + x + ", " + what + ")", OUT, () -> tree.frame(x, what));
            }
        }
    }

    private static void whatOfPage() {
        about("IllegalArgument: what is none that is told.");
        PagedTree tree = grown(1, 5);
        int[] pages = {0, 1, 2, 3, 39};
        for (int page : pages) {
            for (int what : NO_WHATS) {
                dueThrow("page(" + page + ", " + what + ")", ILLEGAL, () -> tree.page(page, what));
            }
            due("page(" + page + ", 0)", tree.page(page, 0), page < 2 ? LEAF : page == 2 ? INNER : FREE);
        }
        due("page(1, 2)", tree.page(1, 2), NONE);
    }

    private static void whatOfFrame() {
        about("IllegalArgument: what is none that is told.");
        PagedTree tree = grown(1, 5);
        int[] frames = {0, 2, 3, 11};
        for (int frame : frames) {
            for (int what : NO_WHATS) {
                dueThrow("frame(" + frame + ", " + what + ")", ILLEGAL, () -> tree.frame(frame, what));
            }
            due("frame(" + frame + ", 2)", tree.frame(frame, 2), frame < 3 ? 1 : 0);
        }
    }

    /** The document does not say which comes first; the one that it names first is taken. */
    private static void bothAreWrong() {
        about("throws IndexOutOfBoundsException, IllegalArgumentException");
        PagedTree tree = grown(1, 5);
        int[] whats = {MIN, -1, 3, MAX};
        for (int what : whats) {
            dueThrow("page(-1, " + what + ")", OUT, () -> tree.page(-1, what));
            dueThrow("page(40, " + what + ")", OUT, () -> tree.page(40, what));
            dueThrow("frame(-1, " + what + ")", OUT, () -> tree.frame(-1, what));
            dueThrow("frame(12, " + what + ")", OUT, () -> tree.frame(12, what));
        }
    }

    private static void itemWhenThereIsNone() {
        about("IndexOutOfBounds: also when there is none.");
        PagedTree tree = new PagedTree();
        for (int k = 0; k < 5; k++) {
            int i = k;
            dueThrow("a root without entries: item " + i, OUT, () -> tree.item(0, i, false));
            dueThrow("a free page: item " + i, OUT, () -> tree.item(1, i, false));
            dueThrow("the last page, free: item " + i, OUT, () -> tree.item(39, i, true));
        }
        for (int size = 1; size <= 4; size++) {
            int behind = size;
            tree.put(size, -size);
            due("key of the last of " + size, tree.item(0, size - 1, false), size);
            due("value of the last of " + size, tree.item(0, size - 1, true), -size);
            dueThrow("key behind the last of " + size, OUT, () -> tree.item(0, behind, false));
            dueThrow("value behind the last of " + size, OUT, () -> tree.item(0, behind, true));
        }
        tree.put(5, -5);
        due("the last of two children", tree.item(2, 1, true), 1);
        dueThrow("behind the last of two children", OUT, () -> tree.item(2, 2, false));
        dueThrow("behind the last of two children, the child", OUT, () -> tree.item(2, 2, true));
    }

    /** What stood there before must not be told when it has gone. */
    private static void itemThatWent() {
        about("IndexOutOfBounds: also when there is none.");
        PagedTree tree = grown(1, 4);
        due("before it splits", tree.item(0, 2, false), 3);
        tree.put(5, 50);
        dueThrow("it went to the new page", OUT, () -> tree.item(0, 2, false));
        due("where it went to", tree.item(1, 0, false), 3);
        tree.remove(5);
        dueThrow("it was removed", OUT, () -> tree.item(1, 2, false));
        tree.remove(4);
        dueThrow("its page is free", OUT, () -> tree.item(1, 0, false));
        dueThrow("the root's page is free", OUT, () -> tree.item(2, 0, true));
        removeAll(tree, 1, 2, 3);
        dueThrow("the last key was removed", OUT, () -> tree.item(0, 0, false));
    }

    private static void toldOfAnother() {
        about("NONE for another what.");
        PagedTree tree = grown(1, 11);
        int[] others = {MIN, MIN + 1, MIN + 7, -8, -7, -2, -1, 8, 9, 15, 16, 256, 65536, MAX - 1, MAX};
        for (int what : others) {
            due("told(" + what + ")", tree.told(what), NONE);
        }
        due("the first that is told", tree.told(0), 11);
        due("the last that is told", tree.told(7), 8);
    }

    private static void lastOf512Calls() {
        about("An object is used for at most 512 calls after it has been made");
        PagedTree tree = new PagedTree();
        for (int n = 0; n < 255; n++) {
            due("put " + n, tree.put(n % 5, n), n < 5);
            due("get " + n, tree.get(n % 5), n);
        }
        // One way of one page each up to the split at 4, but for the first that is read; then of two.
        due("call 511", tree.told(HITS), 1 + 3 * 2 + 1 + 2 + 250 * 4);
        due("call 512", tree.remove(4), true);
    }
}
