import java.util.ArrayList;
import java.util.List;
import java.util.NoSuchElementException;

/**
 * "A call that throws changes nothing.": for each exception that the document names, an object on which
 * the refused call was made is compared with a twin on which it was not, in all that they tell, and then
 * in what they answer to further calls.
 */
public final class RefusedCallsTest extends Look {
    private static final Class<UnsupportedOperationException> UNSUPPORTED = UnsupportedOperationException.class;
    private static final Class<NoSuchElementException> NO_ELEMENT = NoSuchElementException.class;
    private static final Class<IllegalStateException> STATE = IllegalStateException.class;
    private static final Class<IndexOutOfBoundsException> OUT = IndexOutOfBoundsException.class;
    private static final Class<IllegalArgumentException> ILLEGAL = IllegalArgumentException.class;

    interface Maker {
        PagedTree make();
    }

    interface Asked {
        long ask(PagedTree tree);
    }

    public static void main(String[] args) {
        putWithTooFewPages();
        putWithoutAnyPage();
        putWithOnePageOfTwo();
        getWithoutAnyKey();
        getWithoutTheKey();
        nextOfAnEndedCursor();
        cursorThatHasEnded();
        dropWithADirtyFrame();
        pageThatIsNone();
        itemThatIsNone();
        frameThatIsNone();
        whatThatIsNone();
        toldOfAnotherWhat();
        CHECK.end();
    }

    // ---- states to be refused in

    /** Three pages are free. */
    private static PagedTree wide() {
        return grownBy(10, 0, 450);
    }

    private static PagedTree wideAt(int key) {
        PagedTree tree = wide();
        tree.seek(key);
        return tree;
    }

    /** No page is free; the leaf with 21 and 22 is full. */
    private static PagedTree full() {
        PagedTree tree = wide();
        putAll(tree, 1, 2, 3, 11, 12, 41, 42, 43, 21, 22);
        return tree;
    }

    /** One page is free, and the leaf with 13 and its parent are full. */
    private static PagedTree nearlyFull() {
        PagedTree tree = wide();
        putAll(tree, 1, 2, 3, 11, 12, 13);
        return tree;
    }

    private static PagedTree atKey(PagedTree tree, int key) {
        tree.seek(key);
        return tree;
    }

    private static PagedTree clean(PagedTree tree) {
        tree.flush();
        return tree;
    }

    private static PagedTree dropped(PagedTree tree) {
        emptyFrames(tree);
        return tree;
    }

    /** Clean, some of the frames are used no more, the hand is at 2, and the cursor is at 1. */
    private static PagedTree goneRound() {
        PagedTree tree = grown(1, 19);
        emptyFrames(tree);
        tree.seek(1);
        getAll(tree, 5, 9, 13, 3, 7, 11, 15);
        return tree;
    }

    // ---- comparing

    private static void dueNothing(String name, Maker maker, Class<? extends RuntimeException> want, Asked call) {
        about("A call that throws changes nothing.");
        PagedTree asked = maker.make();
        dueThrow(name, want, () -> call.ask(asked));
        dueSame(name + ", then", seen(asked), seen(maker.make()));
        dueSameAfter(name, maker, want, call);
    }

    /** What is hidden, as the leaf of the cursor, is told by what comes after. */
    private static void dueSameAfter(String name, Maker maker, Class<? extends RuntimeException> want, Asked call) {
        PagedTree asked = maker.make();
        PagedTree twin = maker.make();
        for (int n = 0; n < 3; n++) {
            dueThrow(name + ", time " + n, want, () -> call.ask(asked));
        }
        dueSame(name + ", calls then", goOn(asked), goOn(twin));
        dueSame(name + ", and after them", seen(asked), seen(twin));
    }

    private static List<String> goOn(PagedTree tree) {
        List<String> answers = new ArrayList<>();
        for (int n = 0; n < 3; n++) {
            answers.add("next() answers " + answer(() -> tree.next() ? 1 : 0));
            answers.add("cursor(false) answers " + answer(() -> tree.cursor(false)));
        }
        int[] keys = {0, 10, 5, 17, 13};
        for (int key : keys) {
            answers.add("get(" + key + ") answers " + answer(() -> tree.get(key)));
        }
        answers.add("put(10, 7) answers " + answer(() -> tree.put(10, 7) ? 1 : 0));
        answers.add("remove(10) answers " + answer(() -> tree.remove(10) ? 1 : 0));
        answers.add("drop() answers " + answer(() -> tree.drop()));
        answers.add("seek(10) answers " + answer(() -> tree.seek(10) ? 1 : 0));
        return answers;
    }

    // ---- promise 2

    private static void putWithTooFewPages() {
        Asked put = t -> t.put(460, 7) ? 1 : 0;
        dueNothing("put with too few pages, all dirty", () -> wide(), UNSUPPORTED, put);
        dueNothing("put with too few pages, cursor at 0", () -> wideAt(0), UNSUPPORTED, put);
        dueNothing("put with too few pages, cursor at the last", () -> wideAt(450), UNSUPPORTED, put);
        dueNothing("put with too few pages, clean", () -> atKey(clean(wide()), 30), UNSUPPORTED, put);
        dueNothing("put with too few pages, empty frames", () -> dropped(wide()), UNSUPPORTED, put);
    }

    private static void putWithoutAnyPage() {
        Asked put = t -> t.put(23, 7) ? 1 : 0;
        dueNothing("put without any page", () -> full(), UNSUPPORTED, put);
        dueNothing("put without any page, cursor in its leaf", () -> atKey(full(), 21), UNSUPPORTED, put);
        dueNothing("put without any page, clean", () -> clean(full()), UNSUPPORTED, put);
        dueNothing("put without any page, empty frames", () -> atKey(dropped(full()), 40), UNSUPPORTED, put);
    }

    private static void putWithOnePageOfTwo() {
        Asked put = t -> t.put(14, 7) ? 1 : 0;
        dueNothing("put with one page of two", () -> nearlyFull(), UNSUPPORTED, put);
        dueNothing("put with one page of two, cursor on", () -> atKey(nearlyFull(), 13), UNSUPPORTED, put);
        dueNothing("put with one page of two, empty frames", () -> dropped(nearlyFull()), UNSUPPORTED, put);
    }

    // ---- promise 3

    private static void getWithoutAnyKey() {
        dueNothing("get of an empty map", () -> new PagedTree(), NO_ELEMENT, t -> t.get(0));
        dueNothing("get of a map that was emptied", () -> {
            PagedTree tree = grown(1, 2);
            removeAll(tree, 1, 2);
            return tree;
        }, NO_ELEMENT, t -> t.get(1));
    }

    private static void getWithoutTheKey() {
        int[] keys = {MIN, 0, 20, MAX};
        for (int key : keys) {
            String name = "get(" + key + ")";
            dueNothing(name + ", dirty", () -> grown(1, 19), NO_ELEMENT, t -> t.get(key));
            dueNothing(name + ", gone round", () -> goneRound(), NO_ELEMENT, t -> t.get(key));
            dueNothing(name + ", empty frames", () -> dropped(grown(1, 19)), NO_ELEMENT, t -> t.get(key));
            dueNothing(name + ", cursor on", () -> atKey(grown(1, 19), 3), NO_ELEMENT, t -> t.get(key));
        }
        dueNothing("get of a key that is only a mark", () -> {
            PagedTree tree = grown(1, 11);
            tree.remove(5);
            tree.remove(9);
            return atKey(tree, 7);
        }, NO_ELEMENT, t -> t.get(9));
    }

    // ---- promises 6 and 7

    /** Each way in which a cursor has ended. */
    private static Maker[] ended() {
        return new Maker[] {
            () -> new PagedTree(),
            () -> grown(1, 19),
            () -> dropped(grown(1, 19)),
            () -> atKey(grown(1, 19), 20),
            () -> {
                PagedTree tree = atKey(grown(1, 19), 19);
                tree.next();
                return tree;
            },
            () -> {
                PagedTree tree = atKey(grown(1, 19), 3);
                tree.put(3, 1);
                return tree;
            },
            () -> {
                PagedTree tree = atKey(grown(1, 19), 3);
                tree.remove(30);
                return tree;
            },
            () -> dropped(atKey(grown(1, 19), 3)),
        };
    }

    private static void nextOfAnEndedCursor() {
        Maker[] makers = ended();
        for (int n = 0; n < makers.length; n++) {
            dueNothing("next(), ended " + n, makers[n], NO_ELEMENT, t -> t.next() ? 1 : 0);
        }
    }

    private static void cursorThatHasEnded() {
        Maker[] makers = ended();
        for (int n = 0; n < makers.length; n++) {
            dueNothing("cursor(false), ended " + n, makers[n], NO_ELEMENT, t -> t.cursor(false));
            dueNothing("cursor(true), ended " + n, makers[n], NO_ELEMENT, t -> t.cursor(true));
        }
    }

    // ---- promise 9

    private static void dropWithADirtyFrame() {
        dueNothing("drop() with one frame", () -> grown(1, 1), STATE, t -> t.drop());
        dueNothing("drop() with all dirty", () -> atKey(grown(1, 17), 4), STATE, t -> t.drop());
        dueNothing("drop() with the first dirty", () -> {
            PagedTree tree = clean(grown(1, 5));
            tree.put(1, 1);
            return atKey(tree, 2);
        }, STATE, t -> t.drop());
        dueNothing("drop() with the last dirty", () -> {
            // Frame 11 has page 8, the leaf of 11.
            PagedTree tree = dropped(grown(1, 19));
            getAll(tree, 1, 5, 9, 13, 3, 7, 11);
            tree.put(11, 1);
            return atKey(tree, 2);
        }, STATE, t -> t.drop());
        dueNothing("drop() after going round", () -> {
            PagedTree tree = goneRound();
            tree.put(15, 1);
            return atKey(tree, 13);
        }, STATE, t -> t.drop());
    }

    // ---- promises 10 to 13

    private static void pageThatIsNone() {
        int[] pages = {MIN, -1, 40, MAX};
        for (int page : pages) {
            for (int w = 0; w < 3; w++) {
                int what = w;
                String name = "page(" + page + ", " + what + ")";
                dueNothing(name, () -> goneRound(), OUT, t -> t.page(page, what));
            }
            dueNothing("page(" + page + ", 3)", () -> goneRound(), OUT, t -> t.page(page, 3));
        }
    }

    private static void itemThatIsNone() {
        int[][] items = {{MIN, 0}, {-1, 0}, {40, 0}, {MAX, 0}, {0, MIN}, {0, -1}, {0, 2}, {0, 4}, {0, 5}, {0, MAX},
            {7, 4}, {7, -1}, {39, 0}, {14, 0}};
        for (int[] item : items) {
            String name = "item(" + item[0] + ", " + item[1] + ")";
            dueNothing(name, () -> goneRound(), OUT, t -> t.item(item[0], item[1], false));
            dueNothing(name + " on second", () -> goneRound(), OUT, t -> t.item(item[0], item[1], true));
        }
    }

    private static void frameThatIsNone() {
        int[] frames = {MIN, -1, 12, MAX};
        for (int frame : frames) {
            for (int w = 0; w < 4; w++) {
                int what = w;
                String name = "frame(" + frame + ", " + what + ")";
                dueNothing(name, () -> goneRound(), OUT, t -> t.frame(frame, what));
            }
        }
    }

    private static void whatThatIsNone() {
        int[] whats = {MIN, -1, 3, MAX};
        for (int what : whats) {
            dueNothing("page(0, " + what + ")", () -> goneRound(), ILLEGAL, t -> t.page(0, what));
            dueNothing("page(39, " + what + ")", () -> goneRound(), ILLEGAL, t -> t.page(39, what));
            dueNothing("frame(0, " + what + ")", () -> goneRound(), ILLEGAL, t -> t.frame(0, what));
            dueNothing("frame(11, " + what + ")", () -> goneRound(), ILLEGAL, t -> t.frame(11, what));
        }
    }

    /** It does not throw, but is answered with NONE, and changes as little. */
    private static void toldOfAnotherWhat() {
        about("NONE for another what.");
        int[] whats = {MIN, -1, 8, MAX};
        for (int what : whats) {
            PagedTree asked = goneRound();
            due("told(" + what + ")", asked.told(what), NONE);
            dueSame("told(" + what + "), then", seen(asked), seen(goneRound()));
        }
    }
}
