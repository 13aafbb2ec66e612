import java.util.Arrays;
import java.util.NoSuchElementException;

/**
 * A map of ints in a tree of pages on a disk, behind a few frames: pages split and join as entries
 * come and go, the frame that gives way is found by a hand that goes round, and what is read and
 * written is counted.
 */
public final class PagedTree {
    public static final int NONE = -1;

    private static final int PAGES = 40;
    private static final int FRAMES = 12;
    private static final int LEAST = 2;
    private static final int MOST = 4;
    /** One more than a page may have, because a page splits only after the item came in. */
    private static final int ROOM = 5;

    private static final int FREE = 0;
    private static final int LEAF = 1;
    private static final int INNER = 2;

    private final Disk disk = new Disk();
    private final Frames frames = new Frames();

    /** The way found last: its pages from the root on, and which child was taken in each. */
    private final int[] wayPages = new int[PAGES];
    private final int[] wayPlaces = new int[PAGES];
    private int wayLength = 0;

    /** How often each page is a child; a field only so that astray makes no row of its own. */
    private final int[] parents = new int[PAGES];

    private int root;
    private int keys = 0;

    private boolean cursorOn = false;
    private int cursorLeaf = NONE;
    private int cursorPlace = 0;
    private int cursorKey = 0;
    private int cursorValue = 0;

    public PagedTree() {
        root = disk.makePage(LEAF);
    }

    public boolean put(int key, int value) throws UnsupportedOperationException {
        int leaf = findWay(key);
        int place = disk.placeOfKey(leaf, key);
        boolean had = disk.hasKeyAt(leaf, place, key);
        // Looked at before anything is touched, so that a call that throws changes nothing.
        if (!had && pagesToSplit() > disk.countFree()) {
            throw new UnsupportedOperationException("too few pages are free");
        }
        cursorOn = false;
        touchWay();
        frames.markDirty(leaf);
        if (had) {
            disk.setSecond(leaf, place, value);
            return false;
        }
        disk.insertItem(leaf, place, key, value);
        keys++;
        splitUp();
        return true;
    }

    public int get(int key) throws NoSuchElementException {
        int leaf = findWay(key);
        int place = disk.placeOfKey(leaf, key);
        if (!disk.hasKeyAt(leaf, place, key)) {
            throw new NoSuchElementException("no such key");
        }
        touchWay();
        return disk.secondOf(leaf, place);
    }

    public boolean remove(int key) {
        int leaf = findWay(key);
        cursorOn = false;
        touchWay();
        int place = disk.placeOfKey(leaf, key);
        if (!disk.hasKeyAt(leaf, place, key)) {
            return false;
        }
        disk.takeItem(leaf, place);
        keys--;
        frames.markDirty(leaf);
        mendUp();
        return true;
    }

    public boolean seek(int key) {
        int leaf = findWay(key);
        touchWay();
        return setCursor(leaf, disk.placeOfKey(leaf, key));
    }

    public boolean next() throws NoSuchElementException {
        if (!cursorOn) {
            throw new NoSuchElementException("the cursor has ended");
        }
        frames.unpinAll();
        frames.touchPage(cursorLeaf, false);
        return setCursor(cursorLeaf, cursorPlace + 1);
    }

    public int cursor(boolean value) throws NoSuchElementException {
        if (!cursorOn) {
            throw new NoSuchElementException("the cursor has ended");
        }
        return value ? cursorValue : cursorKey;
    }

    public int flush() {
        return frames.writeAll();
    }

    public int drop() throws IllegalStateException {
        if (frames.hasDirty()) {
            throw new IllegalStateException("a frame is dirty");
        }
        cursorOn = false;
        return frames.emptyAll();
    }

    public int page(int page, int what) throws IndexOutOfBoundsException, IllegalArgumentException {
        if (page < 0 || page >= PAGES) {
            throw new IndexOutOfBoundsException("no such page");
        }
        switch (what) {
            case 0:
                return disk.kindOf(page);
            case 1:
                return disk.sizeOf(page);
            case 2:
                return disk.nextOf(page);
            default:
                throw new IllegalArgumentException("no such thing is told of a page");
        }
    }

    public int item(int page, int i, boolean second) throws IndexOutOfBoundsException {
        if (!disk.hasItem(page, i)) {
            throw new IndexOutOfBoundsException("no such page or item");
        }
        return second ? disk.secondOf(page, i) : disk.firstOf(page, i);
    }

    public int frame(int frame, int what) throws IndexOutOfBoundsException, IllegalArgumentException {
        if (frame < 0 || frame >= FRAMES) {
            throw new IndexOutOfBoundsException("no such frame");
        }
        switch (what) {
            case 0:
                return frames.pageIn(frame);
            case 1:
                return frames.isUsed(frame) ? 1 : 0;
            case 2:
                return frames.isDirty(frame) ? 1 : 0;
            default:
                throw new IllegalArgumentException("no such thing is told of a frame");
        }
    }

    public int told(int what) {
        switch (what) {
            case 0:
                return keys;
            case 1:
                return root;
            case 2:
                return countLevels();
            case 3:
                return PAGES - disk.countFree();
            case 4:
                return frames.hits;
            case 5:
                return frames.reads;
            case 6:
                return frames.writes;
            case 7:
                return frames.hand;
            default:
                return NONE;
        }
    }

    public int astray() {
        countParents();
        int wrong = 0;
        for (int page = 0; page < PAGES; page++) {
            int due = page == root || disk.kindOf(page) == FREE ? 0 : 1;
            if (parents[page] != due || hasWrongFrames(page) || hasWrongSize(page) || hasWrongKey(page)) {
                wrong++;
            }
        }
        return wrong;
    }

    // ---- the way of a key

    /** Touches nothing, because calls that throw have to know the leaf before anything changes. */
    private int findWay(int key) {
        int page = root;
        wayLength = 0;
        for (int depth = 0; depth < PAGES; depth++) {
            int place = disk.placeOfChild(page, key);
            wayPages[depth] = page;
            wayPlaces[depth] = place;
            wayLength = depth + 1;
            if (disk.kindOf(page) != INNER) {
                return page;
            }
            page = disk.secondOf(page, place);
        }
        return page;
    }

    /** The first touch of each call that goes down the tree: pins of the call before end here. */
    private void touchWay() {
        frames.unpinAll();
        for (int depth = 0; depth < wayLength && depth < PAGES; depth++) {
            frames.touchPage(wayPages[depth], false);
        }
    }

    private int countLevels() {
        int page = root;
        for (int level = 1; level < PAGES; level++) {
            if (disk.kindOf(page) != INNER) {
                return level;
            }
            page = disk.secondOf(page, 0);
        }
        return PAGES;
    }

    // ---- the cursor

    /** A place behind the last entry means the next leaf, which has one, as only a root may be empty. */
    private boolean setCursor(int leaf, int place) {
        int atLeaf = leaf;
        int atPlace = place;
        if (atPlace >= disk.sizeOf(leaf) && disk.nextOf(leaf) != NONE) {
            atLeaf = disk.nextOf(leaf);
            atPlace = 0;
            frames.touchPage(atLeaf, false);
        }
        cursorOn = disk.hasItem(atLeaf, atPlace);
        cursorLeaf = atLeaf;
        cursorPlace = atPlace;
        cursorKey = disk.firstOf(atLeaf, atPlace);
        cursorValue = disk.secondOf(atLeaf, atPlace);
        return cursorOn;
    }

    // ---- pages that split

    /** Counted ahead, as a split that is begun could not be taken back when the pages run out. */
    private int pagesToSplit() {
        int needed = 0;
        for (int depth = wayLength - 1; depth >= 0 && depth < PAGES; depth--) {
            if (disk.sizeOf(wayPages[depth]) < MOST) {
                return needed;
            }
            needed++;
        }
        return needed + 1;
    }

    private void splitUp() {
        for (int depth = wayLength - 1; depth >= 0 && depth < PAGES; depth--) {
            int full = wayPages[depth];
            if (disk.sizeOf(full) <= MOST) {
                return;
            }
            int fresh = disk.makePage(disk.kindOf(full));
            frames.touchPage(fresh, true);
            int mark = moveBehindSecond(full, fresh);
            frames.markDirty(fresh);
            frames.markDirty(full);
            if (depth == 0) {
                growRoot(full, mark, fresh);
            } else {
                disk.insertItem(wayPages[depth - 1], wayPlaces[depth - 1] + 1, mark, fresh);
                frames.markDirty(wayPages[depth - 1]);
            }
        }
    }

    private int moveBehindSecond(int full, int fresh) {
        for (int i = LEAST; i < ROOM; i++) {
            disk.moveItem(full, LEAST, fresh, i - LEAST);
        }
        int mark = disk.firstOf(fresh, 0);
        dropFirstMark(fresh);
        if (disk.kindOf(full) == LEAF) {
            disk.setNext(fresh, disk.nextOf(full));
            disk.setNext(full, fresh);
        }
        return mark;
    }

    private void growRoot(int left, int mark, int right) {
        root = disk.makePage(INNER);
        frames.touchPage(root, true);
        disk.insertItem(root, 0, 0, left);
        disk.insertItem(root, 1, mark, right);
        frames.markDirty(root);
    }

    // ---- pages that are short

    private void mendUp() {
        for (int depth = wayLength - 1; depth > 0 && depth < PAGES; depth--) {
            if (disk.sizeOf(wayPages[depth]) >= LEAST) {
                return;
            }
            mendShort(wayPages[depth - 1], wayPlaces[depth - 1]);
        }
        lowerRoot();
    }

    /** The right one is touched although the left one may join, because the left one did not give. */
    private void mendShort(int parent, int place) {
        frames.markDirty(parent);
        boolean hasLeft = disk.hasItem(parent, place - 1);
        if (hasLeft && touchGiver(parent, place - 1)) {
            giveItem(parent, place, true);
            return;
        }
        boolean hasRight = disk.hasItem(parent, place + 1);
        if (hasRight && touchGiver(parent, place + 1)) {
            giveItem(parent, place + 1, false);
            return;
        }
        if (hasLeft) {
            joinPages(parent, place);
        } else if (hasRight) {
            joinPages(parent, place + 1);
        }
    }

    private boolean touchGiver(int parent, int place) {
        int giver = disk.secondOf(parent, place);
        frames.touchPage(giver, false);
        return disk.sizeOf(giver) > LEAST;
    }

    /**
     * Of the two neighbours the right one is at the place. Its first child gets the mark that it has
     * in the parent before anything moves: whichever way the item goes, that child is then no longer
     * first in its page, and needs one.
     */
    private void giveItem(int parent, int place, boolean toRight) {
        int left = disk.secondOf(parent, place - 1);
        int right = disk.secondOf(parent, place);
        lowerMark(parent, place);
        if (toRight) {
            disk.moveItem(left, disk.sizeOf(left) - 1, right, 0);
        } else {
            disk.moveItem(right, 0, left, disk.sizeOf(left));
        }
        disk.setFirst(parent, place, disk.firstOf(right, 0));
        dropFirstMark(right);
        frames.markDirty(left);
        frames.markDirty(right);
    }

    private void lowerMark(int parent, int place) {
        int page = disk.secondOf(parent, place);
        if (disk.kindOf(page) == INNER) {
            disk.setFirst(page, 0, disk.firstOf(parent, place));
        }
    }

    /** A first child is told with mark 0, so a mark that went up to the parent must not stay. */
    private void dropFirstMark(int page) {
        if (disk.kindOf(page) == INNER) {
            disk.setFirst(page, 0, 0);
        }
    }

    /** The right one of two always goes into the left one, so that only the left one's next changes. */
    private void joinPages(int parent, int place) {
        int left = disk.secondOf(parent, place - 1);
        int right = disk.secondOf(parent, place);
        lowerMark(parent, place);
        for (int i = 0; i < ROOM && disk.sizeOf(right) > 0; i++) {
            disk.moveItem(right, 0, left, disk.sizeOf(left));
        }
        disk.setNext(left, disk.nextOf(right));
        disk.takeItem(parent, place);
        freePage(right);
        frames.markDirty(left);
    }

    private void lowerRoot() {
        if (disk.kindOf(root) != INNER || disk.sizeOf(root) != 1) {
            return;
        }
        int gone = root;
        root = disk.secondOf(gone, 0);
        freePage(gone);
    }

    private void freePage(int page) {
        disk.clearPage(page);
        frames.forgetPage(page);
    }

    // ---- what is astray

    private void countParents() {
        Arrays.fill(parents, 0);
        for (int page = 0; page < PAGES; page++) {
            int children = disk.kindOf(page) == INNER ? disk.sizeOf(page) : 0;
            for (int i = 0; i < children && i < ROOM; i++) {
                int child = disk.secondOf(page, i);
                if (child >= 0 && child < PAGES) {
                    parents[child]++;
                }
            }
        }
    }

    private boolean hasWrongFrames(int page) {
        int most = disk.kindOf(page) == FREE ? 0 : 1;
        return frames.countOf(page) > most;
    }

    private boolean hasWrongSize(int page) {
        int size = disk.sizeOf(page);
        switch (disk.kindOf(page)) {
            case LEAF:
                return size > MOST || (page != root && size < LEAST);
            case INNER:
                return size > MOST || size < LEAST;
            default:
                return size != 0 || page == root;
        }
    }

    private boolean hasWrongKey(int page) {
        int start = disk.kindOf(page) == INNER ? 1 : 0;
        for (int i = start; i < disk.sizeOf(page) && i < ROOM; i++) {
            int key = disk.firstOf(page, i);
            boolean rises = i == start || disk.firstOf(page, i - 1) < key;
            if (!rises || !isOnWay(page, key)) {
                return true;
            }
        }
        return false;
    }

    private boolean isOnWay(int page, int key) {
        findWay(key);
        for (int depth = 0; depth < wayLength && depth < PAGES; depth++) {
            if (wayPages[depth] == page) {
                return true;
            }
        }
        return false;
    }

    /**
     * The pages as they are. An item is a pair: of a leaf a key and a value, of an inner page a mark
     * (0 for the first child) and a child. What is asked of a page or item that is not there is
     * answered with nothing, and what is told of it is let go, so that no index is ever wrong.
     */
    private static final class Disk {
        private final int[] kinds = new int[PAGES];
        private final int[] sizes = new int[PAGES];
        private final int[] nexts = new int[PAGES];
        private final int[] firsts = new int[PAGES * ROOM];
        private final int[] seconds = new int[PAGES * ROOM];

        private Disk() {
            Arrays.fill(nexts, NONE);
        }

        private int kindOf(int page) {
            return page >= 0 && page < PAGES ? kinds[page] : FREE;
        }

        private int sizeOf(int page) {
            return page >= 0 && page < PAGES ? sizes[page] : 0;
        }

        private int nextOf(int page) {
            return page >= 0 && page < PAGES ? nexts[page] : NONE;
        }

        private void setNext(int page, int leaf) {
            if (page >= 0 && page < PAGES) {
                nexts[page] = leaf;
            }
        }

        private boolean hasItem(int page, int i) {
            return page >= 0 && page < PAGES && i >= 0 && i < ROOM && i < sizes[page];
        }

        private int firstOf(int page, int i) {
            return hasItem(page, i) ? firsts[page * ROOM + i] : 0;
        }

        private int secondOf(int page, int i) {
            return hasItem(page, i) ? seconds[page * ROOM + i] : NONE;
        }

        private void setFirst(int page, int i, int first) {
            if (hasItem(page, i)) {
                firsts[page * ROOM + i] = first;
            }
        }

        private void setSecond(int page, int i, int second) {
            if (hasItem(page, i)) {
                seconds[page * ROOM + i] = second;
            }
        }

        private void insertItem(int page, int place, int first, int second) {
            if (page < 0 || page >= PAGES || place < 0) {
                return;
            }
            int size = sizes[page];
            if (place > size || size >= ROOM) {
                return;
            }
            int base = page * ROOM;
            for (int i = size; i > place; i--) {
                firsts[base + i] = firsts[base + i - 1];
                seconds[base + i] = seconds[base + i - 1];
            }
            firsts[base + place] = first;
            seconds[base + place] = second;
            sizes[page] = size + 1;
        }

        private void takeItem(int page, int place) {
            if (!hasItem(page, place)) {
                return;
            }
            int base = page * ROOM;
            for (int i = place; i + 1 < sizes[page] && i + 1 < ROOM; i++) {
                firsts[base + i] = firsts[base + i + 1];
                seconds[base + i] = seconds[base + i + 1];
            }
            sizes[page]--;
        }

        private void moveItem(int from, int i, int to, int place) {
            if (hasItem(from, i)) {
                insertItem(to, place, firstOf(from, i), secondOf(from, i));
                takeItem(from, i);
            }
        }

        /** Behind the last entry if all are below the key: there a new entry would go. */
        private int placeOfKey(int leaf, int key) {
            int size = sizeOf(leaf);
            for (int i = 0; i < size && i < ROOM; i++) {
                if (firstOf(leaf, i) >= key) {
                    return i;
                }
            }
            return size;
        }

        private boolean hasKeyAt(int leaf, int place, int key) {
            return hasItem(leaf, place) && firstOf(leaf, place) == key;
        }

        /** Never looks at the first child's mark, as it has none. */
        private int placeOfChild(int page, int key) {
            for (int i = ROOM - 1; i > 0; i--) {
                if (hasItem(page, i) && firstOf(page, i) <= key) {
                    return i;
                }
            }
            return 0;
        }

        private int countFree() {
            int count = 0;
            for (int page = 0; page < PAGES; page++) {
                if (kinds[page] == FREE) {
                    count++;
                }
            }
            return count;
        }

        private int makePage(int kind) {
            for (int page = 0; page < PAGES; page++) {
                if (kinds[page] == FREE) {
                    kinds[page] = kind;
                    return page;
                }
            }
            return NONE;
        }

        private void clearPage(int page) {
            if (page >= 0 && page < PAGES) {
                kinds[page] = FREE;
                sizes[page] = 0;
                nexts[page] = NONE;
            }
        }
    }

    /** The frames, the hand that goes round them, and the counts of what went through them. */
    private static final class Frames {
        private final int[] pages = new int[FRAMES];
        private final boolean[] used = new boolean[FRAMES];
        private final boolean[] dirty = new boolean[FRAMES];
        private final boolean[] pinned = new boolean[FRAMES];
        private int hand = 0;
        private int hits = 0;
        private int reads = 0;
        private int writes = 0;

        private Frames() {
            Arrays.fill(pages, NONE);
        }

        private int pageIn(int frame) {
            return frame >= 0 && frame < FRAMES ? pages[frame] : NONE;
        }

        private boolean isUsed(int frame) {
            return frame >= 0 && frame < FRAMES && used[frame];
        }

        private boolean isDirty(int frame) {
            return frame >= 0 && frame < FRAMES && dirty[frame];
        }

        private boolean hasDirty() {
            for (int frame = 0; frame < FRAMES; frame++) {
                if (dirty[frame]) {
                    return true;
                }
            }
            return false;
        }

        private int countOf(int page) {
            int count = 0;
            for (int frame = 0; frame < FRAMES; frame++) {
                if (pages[frame] == page) {
                    count++;
                }
            }
            return count;
        }

        private void unpinAll() {
            for (int frame = 0; frame < FRAMES; frame++) {
                pinned[frame] = false;
            }
        }

        /** A page that was free before the call has nothing on the disk, so it is not read. */
        private void touchPage(int page, boolean wasFree) {
            if (page == NONE) {
                return;
            }
            int frame = frameOf(page);
            if (frame >= 0 && frame < FRAMES) {
                hits++;
                used[frame] = true;
                pinned[frame] = true;
                return;
            }
            frame = lookForFrame();
            if (frame < 0 || frame >= FRAMES) {
                return;
            }
            if (dirty[frame]) {
                writes++;
            }
            if (!wasFree) {
                reads++;
            }
            pages[frame] = page;
            dirty[frame] = false;
            used[frame] = true;
            pinned[frame] = true;
        }

        private int frameOf(int page) {
            if (page == NONE) {
                // Else it would be found in the empty frames.
                return NONE;
            }
            for (int frame = 0; frame < FRAMES; frame++) {
                if (pages[frame] == page) {
                    return frame;
                }
            }
            return NONE;
        }

        /**
         * Two rounds are enough, as the first one leaves no frame used but the pinned ones. No call
         * pins all frames: the tree has at most four levels, so remove, the dearest, touches at most
         * four pages of the way and two beside each of three of them.
         */
        private int lookForFrame() {
            for (int turn = 0; turn < 2 * FRAMES; turn++) {
                int frame = hand;
                if (frame < 0 || frame >= FRAMES) {
                    return NONE;
                }
                hand = frame + 1 < FRAMES ? frame + 1 : 0;
                if (pages[frame] == NONE) {
                    return frame;
                }
                if (!pinned[frame]) {
                    if (!used[frame]) {
                        return frame;
                    }
                    used[frame] = false;
                }
            }
            return NONE;
        }

        private void markDirty(int page) {
            int frame = frameOf(page);
            if (frame >= 0 && frame < FRAMES) {
                dirty[frame] = true;
            }
        }

        private void forgetPage(int page) {
            int frame = frameOf(page);
            if (frame >= 0 && frame < FRAMES) {
                emptyFrame(frame);
            }
        }

        private void emptyFrame(int frame) {
            if (frame >= 0 && frame < FRAMES) {
                pages[frame] = NONE;
                used[frame] = false;
                dirty[frame] = false;
                pinned[frame] = false;
            }
        }

        private int writeAll() {
            int count = 0;
            for (int frame = 0; frame < FRAMES; frame++) {
                if (dirty[frame]) {
                    dirty[frame] = false;
                    count++;
                }
            }
            writes += count;
            return count;
        }

        private int emptyAll() {
            int count = 0;
            for (int frame = 0; frame < FRAMES; frame++) {
                if (pages[frame] != NONE) {
                    count++;
                }
                emptyFrame(frame);
            }
            hand = 0;
            return count;
        }
    }
}
