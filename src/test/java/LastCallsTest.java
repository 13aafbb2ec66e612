import java.util.NoSuchElementException;

/**
 * "An object is used for at most 512 calls after it has been made": what each promise says holds up to
 * the last of them. What a last call changes cannot be asked any more, but its answer is due.
 */
public final class LastCallsTest extends Look {
    private static final int CALLS = 512;
    private static final Class<NoSuchElementException> NO_ELEMENT = NoSuchElementException.class;
    private static final Class<IndexOutOfBoundsException> OUT = IndexOutOfBoundsException.class;
    private static final Class<IllegalArgumentException> ILLEGAL = IllegalArgumentException.class;

    public static void main(String[] args) {
        about("An object is used for at most 512 calls after it has been made");
        lastPut();
        lastGet();
        lastRemove();
        lastSeek();
        lastNext();
        lastCursor();
        lastFlush();
        lastDrop();
        lastPageItemAndFrame();
        lastToldAndAstray();
        splitsAndJoinsToTheLast();
        countsOfTheMostCalls();
        CHECK.end();
    }

    // ---- trees with one call left, which is filled up with calls that only look

    private static PagedTree worn(PagedTree tree, int made) {
        for (int call = made; call < CALLS - 1; call++) {
            tree.told(call % 9 - 1);
        }
        return tree;
    }

    /** 19 keys in 14 pages, all frames dirty. */
    private static PagedTree grown19() {
        return worn(grown(1, 19), 19);
    }

    private static PagedTree grown19At(int key) {
        PagedTree tree = grown(1, 19);
        tree.seek(key);
        return worn(tree, 20);
    }

    /** 37 of the 40 pages are not free. */
    private static PagedTree wide() {
        return worn(grown(0, 45), 46);
    }

    private static PagedTree clean() {
        PagedTree tree = grown(1, 5);
        tree.flush();
        return worn(tree, 6);
    }

    // ---- each call as the last one

    private static void lastPut() {
        due("put of a new key", grown19().put(20, 200), true);
        due("put of a key that is there", grown19().put(19, 1), false);
        due("put where a page splits", grown19().put(0, 1), true);
        PagedTree tree = wide();
        dueThrow("put with too few pages", UnsupportedOperationException.class, () -> tree.put(46, 1) ? 1 : 0);
    }

    private static void lastGet() {
        due("get(1)", grown19().get(1), 10);
        due("get(19)", grown19().get(19), 190);
        due("get(45)", wide().get(45), 450);
        PagedTree tree = grown19();
        dueThrow("get(20)", NO_ELEMENT, () -> tree.get(20));
    }

    private static void lastRemove() {
        due("remove(1), where pages join", grown19().remove(1), true);
        due("remove(19)", grown19().remove(19), true);
        due("remove(20)", grown19().remove(20), false);
        due("remove(8), through four levels", wide().remove(8), true);
    }

    private static void lastSeek() {
        due("seek(MIN)", grown19().seek(MIN), true);
        due("seek(19)", grown19().seek(19), true);
        due("seek(20)", grown19().seek(20), false);
    }

    private static void lastNext() {
        due("next() of 1", grown19At(1).next(), true);
        due("next() of 2, to the next leaf", grown19At(2).next(), true);
        due("next() of 19", grown19At(19).next(), false);
        PagedTree tree = grown19();
        dueThrow("next() of none", NO_ELEMENT, () -> tree.next() ? 1 : 0);
    }

    private static void lastCursor() {
        due("cursor(false)", grown19At(7).cursor(false), 7);
        due("cursor(true)", grown19At(7).cursor(true), 70);
        PagedTree tree = grown19();
        dueThrow("cursor(false) of none", NO_ELEMENT, () -> tree.cursor(false));
        PagedTree other = grown19At(20);
        dueThrow("cursor(true) of none", NO_ELEMENT, () -> other.cursor(true));
    }

    private static void lastFlush() {
        due("flush() with all dirty", grown19().flush(), 12);
        due("flush() with none dirty", clean().flush(), 0);
        due("flush() of a new object", worn(new PagedTree(), 0).flush(), 0);
    }

    private static void lastDrop() {
        due("drop()", clean().drop(), 3);
        due("drop() of a new object", worn(new PagedTree(), 0).drop(), 0);
        PagedTree tree = grown19();
        dueThrow("drop() with all dirty", IllegalStateException.class, () -> tree.drop());
    }

    private static void lastPageItemAndFrame() {
        due("page(7, 0)", grown19().page(7, 0), INNER);
        due("page(7, 1)", grown19().page(7, 1), 4);
        due("page(0, 2)", grown19().page(0, 2), 1);
        due("item(12, 2, false)", grown19().item(12, 2, false), 19);
        due("item(12, 2, true)", grown19().item(12, 2, true), 190);
        due("item(7, 3, true)", grown19().item(7, 3, true), 13);
        due("frame(0, 0)", grown19().frame(0, 0), 12);
        due("frame(1, 1)", grown19().frame(1, 1), 1);
        due("frame(1, 2)", grown19().frame(1, 2), 1);
        PagedTree[] trees = {grown19(), grown19(), grown19(), grown19(), grown19()};
        dueThrow("page(40, 0)", OUT, () -> trees[0].page(40, 0));
        dueThrow("page(0, 3)", ILLEGAL, () -> trees[1].page(0, 3));
        dueThrow("item(12, 3, true)", OUT, () -> trees[2].item(12, 3, true));
        dueThrow("frame(12, 0)", OUT, () -> trees[3].frame(12, 0));
        dueThrow("frame(0, -1)", ILLEGAL, () -> trees[4].frame(0, -1));
    }

    private static void lastToldAndAstray() {
        // Hits: 3 for 2 to 4, 1 for 5, 2 each for 6 to 11, 3 each for 12 to 19.
        int[] told = {NONE, 19, 7, 3, 14, 40, 1, 2, 2, NONE};
        for (int what = -1; what <= 8; what++) {
            due("told(" + what + ")", grown19().told(what), told[what + 1]);
        }
        due("astray()", grown19().astray(), 0);
        due("astray() with the most pages", wide().astray(), 0);
    }

    // ---- long runs

    /** The leaf root splits and its two leaves join again, over and over. */
    private static void splitsAndJoinsToTheLast() {
        PagedTree tree = grown(1, 4);
        for (int round = 0; round < 101; round++) {
            String name = "round " + round + ": ";
            due(name + "put(5), a page splits", tree.put(5, round), true);
            due(name + "put(5) again", tree.put(5, -round), false);
            due(name + "remove(5)", tree.remove(5), true);
            due(name + "remove(1), pages join and the root goes", tree.remove(1), true);
            due(name + "put(1)", tree.put(1, 10), true);
        }
        due("keys, call 510", tree.told(0), 4);
        due("pages, call 511", tree.told(PAGES), 1);
        due("the root, call 512", tree.told(ROOT), 0);
    }

    private static void countsOfTheMostCalls() {
        PagedTree hits = grown(1, 4);
        for (int call = 4; call < CALLS - 1; call++) {
            hits.get(call % 4 + 1);
        }
        // Each call hits the root, but for the first put, which reads it.
        due("hits, call 512", hits.told(HITS), CALLS - 2);
        PagedTree written = new PagedTree();
        for (int call = 0; call + 2 < CALLS; call += 2) {
            written.put(1, call);
            due("flush(), call " + (call + 2), written.flush(), 1);
        }
        written.get(1);
        due("written, call 512", written.told(WRITTEN), CALLS / 2 - 1);
        PagedTree read = grown(1, 1);
        read.flush();
        for (int call = 2; call + 2 < CALLS; call += 2) {
            due("drop(), call " + (call + 1), read.drop(), 1);
            read.get(1);
        }
        read.get(1);
        due("read, call 512", read.told(READ), CALLS / 2 - 1);
    }
}
