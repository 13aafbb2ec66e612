import java.util.ArrayList;
import java.util.List;
import java.util.NoSuchElementException;

/** What the tests of single calls share: trees to begin with, and what is due of pages and frames. */
abstract class Look {
    static final Check CHECK = new Check();
    static final int NONE = -1;
    static final int MIN = Integer.MIN_VALUE;
    static final int MAX = Integer.MAX_VALUE;
    static final int FREE = 0;
    static final int LEAF = 1;
    static final int INNER = 2;

    static final int ROOT = 1;
    static final int LEVELS = 2;
    static final int PAGES = 3;
    static final int HITS = 4;
    static final int READ = 5;
    static final int WRITTEN = 6;
    static final int HAND = 7;

    private static String sentence = "";

    /** The document's words that the next answers are about: a fault is told with them. */
    static void about(String words) {
        sentence = "\"" + words + "\": ";
    }

    // ---- trees

    static PagedTree grown(int first, int last) {
        return grownBy(1, first, last);
    }

    /** Keys that rise, each with ten times itself as its value. */
    static PagedTree grownBy(int step, int first, int last) {
        PagedTree tree = new PagedTree();
        for (int key = first; key <= last; key += step) {
            tree.put(key, 10 * key);
        }
        return tree;
    }

    static void putAll(PagedTree tree, int... keys) {
        for (int key : keys) {
            tree.put(key, 10 * key);
        }
    }

    static void removeAll(PagedTree tree, int... keys) {
        for (int key : keys) {
            tree.remove(key);
        }
    }

    static void getAll(PagedTree tree, int... keys) {
        for (int key : keys) {
            tree.get(key);
        }
    }

    static void emptyFrames(PagedTree tree) {
        tree.flush();
        tree.drop();
    }

    // ---- what is due

    static void due(String call, long got, long want) {
        CHECK.due(sentence + call, got, want);
    }

    static void due(String call, boolean got, boolean want) {
        CHECK.due(sentence + call, got, want);
    }

    static void dueThrow(String call, Class<? extends RuntimeException> want, Check.Call made) {
        CHECK.dueThrow(sentence + call, want, made);
    }

    static void dueSame(String name, List<String> got, List<String> want) {
        due(name + ": how much is seen", got.size(), want.size());
        for (int i = 0; i < got.size() && i < want.size(); i++) {
            if (!got.get(i).equals(want.get(i))) {
                CHECK.tell(sentence + name + ": " + got.get(i) + ", due is " + want.get(i));
            }
        }
    }

    static void dueLeaf(String name, PagedTree tree, int page, int next, int... keys) {
        String at = name + ": page " + page;
        due(at + " what it is", tree.page(page, 0), LEAF);
        due(at + " entries", tree.page(page, 1), keys.length);
        due(at + " next", tree.page(page, 2), next);
        for (int i = 0; i < keys.length && i < tree.page(page, 1); i++) {
            due(at + " key " + i, tree.item(page, i, false), keys[i]);
        }
    }

    /** Children and marks in turn: child, mark, child, mark, child .. */
    static void dueInner(String name, PagedTree tree, int page, int... row) {
        String at = name + ": page " + page;
        int children = (row.length + 1) / 2;
        due(at + " what it is", tree.page(page, 0), INNER);
        due(at + " children", tree.page(page, 1), children);
        due(at + " next", tree.page(page, 2), NONE);
        for (int i = 0; i < children && i < tree.page(page, 1); i++) {
            due(at + " child " + i, tree.item(page, i, true), row[2 * i]);
            due(at + " mark " + i, tree.item(page, i, false), i == 0 ? 0 : row[2 * i - 1]);
        }
    }

    static void dueFree(String name, PagedTree tree, int page) {
        String at = name + ": page " + page;
        due(at + " what it is", tree.page(page, 0), FREE);
        due(at + " items", tree.page(page, 1), 0);
        due(at + " next", tree.page(page, 2), NONE);
        dueThrow(at + " item 0", IndexOutOfBoundsException.class, () -> tree.item(page, 0, false));
        for (int frame = 0; frame < 12; frame++) {
            due(at + " is in frame " + frame, tree.frame(frame, 0) == page, false);
        }
    }

    static void dueFrame(String name, PagedTree tree, int frame, int page, int used, int dirty) {
        String at = name + ": frame " + frame;
        due(at + " page", tree.frame(frame, 0), page);
        due(at + " used", tree.frame(frame, 1), used);
        due(at + " dirty", tree.frame(frame, 2), dirty);
    }

    /** The pages in the frames from 0 on; the frames behind them are empty. */
    static void dueFramePages(String name, PagedTree tree, int... pages) {
        for (int frame = 0; frame < 12; frame++) {
            due(name + ": frame " + frame, tree.frame(frame, 0), frame < pages.length ? pages[frame] : NONE);
        }
    }

    /** Which pages are dirty in frames, whatever the frame. */
    static void dueDirty(String name, PagedTree tree, int... pages) {
        int count = 0;
        for (int frame = 0; frame < 12; frame++) {
            boolean want = false;
            for (int page : pages) {
                want |= tree.frame(frame, 0) == page;
            }
            due(name + ": frame " + frame + " is dirty", tree.frame(frame, 2) == 1, want);
            count += want ? 1 : 0;
        }
        due(name + ": dirty pages in frames", count, pages.length);
    }

    static void dueTold(String name, PagedTree tree, int... told) {
        for (int what = 0; what < told.length; what++) {
            due(name + ": told(" + what + ")", tree.told(what), told[what]);
        }
    }

    static void dueEnded(String name, PagedTree tree) {
        dueThrow(name + ": cursor(false)", NoSuchElementException.class, () -> tree.cursor(false));
        dueThrow(name + ": cursor(true)", NoSuchElementException.class, () -> tree.cursor(true));
        dueThrow(name + ": next()", NoSuchElementException.class, () -> tree.next() ? 1 : 0);
    }

    static void dueCursor(String name, PagedTree tree, int key, int value) {
        due(name + ": cursor(false)", tree.cursor(false), key);
        due(name + ": cursor(true)", tree.cursor(true), value);
    }

    // ---- all that the calls that only look tell

    static String answer(Check.Call call) {
        try {
            return Long.toString(call.ask());
        } catch (RuntimeException e) {
            return "throws." + e.getClass().getName();
        }
    }

    private static void see(List<String> seen, String call, Check.Call made) {
        seen.add(call + " answers " + answer(made));
    }

    /** Some 400 calls for the largest tree, so an object is seen only once. */
    static List<String> seen(PagedTree tree) {
        List<String> seen = new ArrayList<>();
        for (int n = 0; n < 40; n++) {
            int page = n;
            for (int w = 0; w < 3; w++) {
                int what = w;
                see(seen, "page(" + page + ", " + what + ")", () -> tree.page(page, what));
            }
            int size = tree.page(page, 1);
            for (int k = 0; k < size; k++) {
                int i = k;
                see(seen, "item(" + page + ", " + i + ", false)", () -> tree.item(page, i, false));
                see(seen, "item(" + page + ", " + i + ", true)", () -> tree.item(page, i, true));
            }
        }
        for (int n = 0; n < 12; n++) {
            int frame = n;
            for (int w = 0; w < 3; w++) {
                int what = w;
                see(seen, "frame(" + frame + ", " + what + ")", () -> tree.frame(frame, what));
            }
        }
        for (int w = -1; w <= 8; w++) {
            int what = w;
            see(seen, "told(" + what + ")", () -> tree.told(what));
        }
        see(seen, "cursor(false)", () -> tree.cursor(false));
        see(seen, "cursor(true)", () -> tree.cursor(true));
        see(seen, "astray()", () -> tree.astray());
        return seen;
    }
}
