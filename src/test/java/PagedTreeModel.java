import java.util.ArrayList;
import java.util.HashSet;
import java.util.List;
import java.util.Map;
import java.util.NoSuchElementException;
import java.util.Set;
import java.util.TreeMap;

/**
 * The document's words as plainly as they can be written: pages and frames are objects, the map is
 * kept a second time in a TreeMap, and each call that may throw works on what it has looked up first.
 * It also counts which cases its runs came through, so that a test can tell that none was left out.
 */
final class PagedTreeModel {
    static final int NONE = -1;

    private static final class Item {
        int mark;
        final int second;

        Item(int mark, int second) {
            this.mark = mark;
            this.second = second;
        }
    }

    private static final class Page {
        final int number;
        final boolean leaf;
        final List<Item> items = new ArrayList<>();
        Page nextLeaf = null;

        Page(int number, boolean leaf) {
            this.number = number;
            this.leaf = leaf;
        }
    }

    private static final class Frame {
        Page page = null;
        boolean used = false;
        boolean dirty = false;
    }

    private final Page[] pages = new Page[40];
    private final Frame[] frames = new Frame[12];
    private final TreeMap<Integer, Integer> map = new TreeMap<>();
    private final Set<Frame> pinned = new HashSet<>();
    private final Map<String, Integer> cases;
    private Page root = newPage(true);
    private int hand = 0;
    private int hits = 0;
    private int reads = 0;
    private int writes = 0;
    private Integer cursorKey = null;

    private boolean freedInCall = false;

    PagedTreeModel(Map<String, Integer> cases) {
        this.cases = cases;
        for (int i = 0; i < frames.length; i++) {
            frames[i] = new Frame();
        }
    }

    private void came(String name) {
        cases.merge(name, 1, Integer::sum);
    }

    // ---- pages

    private int leastFree() {
        for (int i = 0; i < pages.length; i++) {
            if (pages[i] == null) {
                return i;
            }
        }
        throw new AssertionError("the model ran out of pages");
    }

    private Page newPage(boolean leaf) {
        int number = leastFree();
        pages[number] = new Page(number, leaf);
        return pages[number];
    }

    private int countPages() {
        int count = 0;
        for (Page page : pages) {
            count += page == null ? 0 : 1;
        }
        return count;
    }

    private Page child(Page page, int i) {
        return pages[page.items.get(i).second];
    }

    private int childOnWay(Page page, int key) {
        int at = 0;
        for (int i = 1; i < page.items.size(); i++) {
            if (page.items.get(i).mark <= key) {
                at = i;
            }
        }
        return at;
    }

    private List<Page> way(int key) {
        List<Page> way = new ArrayList<>();
        Page page = root;
        way.add(page);
        while (!page.leaf) {
            page = child(page, childOnWay(page, key));
            way.add(page);
        }
        return way;
    }

    private static int indexOf(Page leaf, int key) {
        for (int i = 0; i < leaf.items.size(); i++) {
            if (leaf.items.get(i).mark == key) {
                return i;
            }
        }
        return NONE;
    }

    private int indexIn(Page parent, Page page) {
        for (int i = 0; i < parent.items.size(); i++) {
            if (child(parent, i) == page) {
                return i;
            }
        }
        throw new AssertionError("no child of its parent");
    }

    // ---- frames

    private Frame frameOf(Page page) {
        for (Frame frame : frames) {
            if (frame.page == page) {
                return frame;
            }
        }
        return null;
    }

    private void touch(Page page, boolean wasFree) {
        Frame frame = frameOf(page);
        if (frame != null) {
            if (pinned.contains(frame)) {
                throw new AssertionError("touched twice in a call");
            }
            hits++;
        } else {
            frame = look();
            frame.page = page;
            frame.dirty = false;
            if (!wasFree) {
                reads++;
            }
        }
        frame.used = true;
        pinned.add(frame);
    }

    private Frame look() {
        while (true) {
            Frame frame = frames[hand];
            boolean take = false;
            if (frame.page == null) {
                came(freedInCall ? "look: empty, after a page was freed in the call" : "look: empty");
                take = true;
            } else if (pinned.contains(frame)) {
                came("look: pinned");
            } else if (frame.used) {
                came("look: used");
                frame.used = false;
            } else {
                came(frame.dirty ? "look: a dirty page leaves" : "look: a clean page leaves");
                writes += frame.dirty ? 1 : 0;
                take = true;
            }
            hand = (hand + 1) % frames.length;
            if (hand == 0) {
                came("look: round");
            }
            if (take) {
                return frame;
            }
        }
    }

    private void touchAll(List<Page> way) {
        pinned.clear();
        freedInCall = false;
        for (Page page : way) {
            touch(page, false);
        }
        came("levels " + way.size());
    }

    private void change(Page page) {
        frameOf(page).dirty = true;
    }

    private void free(Page page) {
        Frame frame = frameOf(page);
        frame.page = null;
        frame.used = false;
        frame.dirty = false;
        pinned.remove(frame);
        pages[page.number] = null;
        freedInCall = true;
    }

    // ---- the face

    boolean put(int key, int value) {
        List<Page> way = way(key);
        Page leaf = way.get(way.size() - 1);
        boolean fresh = !map.containsKey(key);
        if (fresh && countPages() + splits(way) > pages.length) {
            came(countPages() == pages.length ? "put: no page is free" : "put: too few pages are free");
            if (cursorKey != null) {
                came("put: throws, and the cursor stays");
            }
            throw new UnsupportedOperationException();
        }
        cursorKey = null;
        touchAll(way);
        change(leaf);
        map.put(key, value);
        if (!fresh) {
            came("put: had one");
            int at = indexOf(leaf, key);
            leaf.items.set(at, new Item(key, value));
            return false;
        }
        int at = 0;
        while (at < leaf.items.size() && leaf.items.get(at).mark < key) {
            at++;
        }
        leaf.items.add(at, new Item(key, value));
        for (int depth = way.size() - 1; depth >= 0 && way.get(depth).items.size() == 5; depth--) {
            split(way.get(depth), depth == 0 ? null : way.get(depth - 1));
        }
        return true;
    }

    private int splits(List<Page> way) {
        int count = 0;
        for (int depth = way.size() - 1; depth >= 0; depth--) {
            if (way.get(depth).items.size() < 4) {
                return count;
            }
            count++;
        }
        return count + 1;
    }

    private void split(Page page, Page parent) {
        came((page.leaf ? "leaf" : "inner") + (parent == null ? " root" : "") + " splits");
        Page fresh = newPage(page.leaf);
        touch(fresh, true);
        while (page.items.size() > 2) {
            fresh.items.add(page.items.remove(2));
        }
        int mark = fresh.items.get(0).mark;
        if (page.leaf) {
            fresh.nextLeaf = page.nextLeaf;
            page.nextLeaf = fresh;
        } else {
            fresh.items.get(0).mark = 0;
        }
        change(page);
        change(fresh);
        if (parent == null) {
            root = newPage(false);
            touch(root, true);
            root.items.add(new Item(0, page.number));
            root.items.add(new Item(mark, fresh.number));
            change(root);
        } else {
            parent.items.add(indexIn(parent, page) + 1, new Item(mark, fresh.number));
            change(parent);
        }
    }

    int get(int key) {
        if (!map.containsKey(key)) {
            throw new NoSuchElementException();
        }
        touchAll(way(key));
        return map.get(key);
    }

    boolean remove(int key) {
        List<Page> way = way(key);
        Page leaf = way.get(way.size() - 1);
        cursorKey = null;
        touchAll(way);
        if (map.remove(key) == null) {
            came("remove: none");
            return false;
        }
        leaf.items.remove(indexOf(leaf, key));
        change(leaf);
        for (int depth = way.size() - 1; depth > 0 && way.get(depth).items.size() < 2; depth--) {
            mend(way.get(depth), way.get(depth - 1));
        }
        if (!root.leaf && root.items.size() == 1) {
            came("the root goes");
            Page gone = root;
            root = child(gone, 0);
            free(gone);
        }
        return true;
    }

    private void mend(Page page, Page parent) {
        String kind = page.leaf ? "leaf" : "inner";
        int at = indexIn(parent, page);
        Page left = at > 0 ? child(parent, at - 1) : null;
        Page right = at + 1 < parent.items.size() ? child(parent, at + 1) : null;
        change(parent);
        if (left != null) {
            touch(left, false);
            if (left.items.size() > 2) {
                came(kind + ": the left one gives" + (right == null ? "" : ", a right one stays untouched"));
                leftGives(left, page, parent.items.get(at));
                return;
            }
        }
        if (right != null) {
            touch(right, false);
            if (right.items.size() > 2) {
                came(kind + ": the right one gives" + (left == null ? "" : ", behind a left one"));
                rightGives(page, right, parent.items.get(at + 1));
                return;
            }
        }
        if (left != null) {
            came(kind + ": joins its left one" + (right == null ? "" : ", a right one is touched"));
            join(left, page, parent, at);
        } else {
            came(kind + ": its right one joins it");
            join(page, right, parent, at + 1);
        }
    }

    private void leftGives(Page left, Page right, Item markOfRight) {
        Item given = left.items.remove(left.items.size() - 1);
        if (right.leaf) {
            right.items.add(0, given);
            markOfRight.mark = given.mark;
        } else {
            right.items.get(0).mark = markOfRight.mark;
            markOfRight.mark = given.mark;
            given.mark = 0;
            right.items.add(0, given);
        }
        change(left);
        change(right);
    }

    private void rightGives(Page left, Page right, Item markOfRight) {
        Item given = right.items.remove(0);
        left.items.add(given);
        if (left.leaf) {
            markOfRight.mark = right.items.get(0).mark;
        } else {
            given.mark = markOfRight.mark;
            markOfRight.mark = right.items.get(0).mark;
            right.items.get(0).mark = 0;
        }
        change(left);
        change(right);
    }

    private void join(Page left, Page right, Page parent, int rightAt) {
        if (!left.leaf) {
            right.items.get(0).mark = parent.items.get(rightAt).mark;
        }
        left.items.addAll(right.items);
        left.nextLeaf = right.nextLeaf;
        parent.items.remove(rightAt);
        free(right);
        change(left);
    }

    boolean seek(int key) {
        List<Page> way = way(key);
        touchAll(way);
        Page leaf = way.get(way.size() - 1);
        cursorKey = map.ceilingKey(key);
        boolean here = cursorKey != null && indexOf(leaf, cursorKey) != NONE;
        if (!here && leaf.nextLeaf != null) {
            came("seek: the next leaf");
            touch(leaf.nextLeaf, false);
        }
        return cursorKey != null;
    }

    boolean next() {
        if (cursorKey == null) {
            throw new NoSuchElementException();
        }
        pinned.clear();
        List<Page> way = way(cursorKey);
        Page leaf = way.get(way.size() - 1);
        if (frameOf(leaf) == null) {
            came("next: its leaf is read");
        }
        touch(leaf, false);
        boolean last = indexOf(leaf, cursorKey) == leaf.items.size() - 1;
        if (last && leaf.nextLeaf != null) {
            came("next: the next leaf");
            touch(leaf.nextLeaf, false);
        }
        cursorKey = map.higherKey(cursorKey);
        came(cursorKey == null ? "next: ends" : "next: goes on");
        return cursorKey != null;
    }

    int cursor(boolean value) {
        if (cursorKey == null) {
            throw new NoSuchElementException();
        }
        return value ? map.get(cursorKey) : cursorKey;
    }

    int flush() {
        int count = 0;
        for (Frame frame : frames) {
            if (frame.dirty) {
                count++;
                frame.dirty = false;
            }
        }
        writes += count;
        return count;
    }

    int drop() {
        int count = 0;
        for (Frame frame : frames) {
            if (frame.dirty) {
                came(cursorKey == null ? "drop: dirty" : "drop: dirty, and the cursor stays");
                throw new IllegalStateException();
            }
            count += frame.page == null ? 0 : 1;
        }
        came(cursorKey == null ? "drop" : "drop: the cursor ends");
        for (int i = 0; i < frames.length; i++) {
            frames[i] = new Frame();
        }
        hand = 0;
        cursorKey = null;
        return count;
    }

    int page(int page, int what) {
        if (page < 0 || page >= pages.length) {
            throw new IndexOutOfBoundsException();
        }
        if (what < 0 || what > 2) {
            throw new IllegalArgumentException();
        }
        Page at = pages[page];
        if (at == null) {
            return what == 2 ? NONE : 0;
        }
        if (what == 0) {
            return at.leaf ? 1 : 2;
        }
        if (what == 1) {
            return at.items.size();
        }
        return at.nextLeaf == null ? NONE : at.nextLeaf.number;
    }

    int item(int page, int i, boolean second) {
        if (page < 0 || page >= pages.length || pages[page] == null) {
            throw new IndexOutOfBoundsException();
        }
        if (i < 0 || i >= pages[page].items.size()) {
            throw new IndexOutOfBoundsException();
        }
        Item item = pages[page].items.get(i);
        return second ? item.second : item.mark;
    }

    int frame(int frame, int what) {
        if (frame < 0 || frame >= frames.length) {
            throw new IndexOutOfBoundsException();
        }
        Frame at = frames[frame];
        switch (what) {
            case 0: return at.page == null ? NONE : at.page.number;
            case 1: return at.used ? 1 : 0;
            case 2: return at.dirty ? 1 : 0;
            default: throw new IllegalArgumentException();
        }
    }

    int told(int what) {
        switch (what) {
            case 0: return map.size();
            case 1: return root.number;
            case 2: return way(0).size();
            case 3: return countPages();
            case 4: return hits;
            case 5: return reads;
            case 6: return writes;
            case 7: return hand;
            default: return NONE;
        }
    }

    int astray() {
        return 0;
    }
}
