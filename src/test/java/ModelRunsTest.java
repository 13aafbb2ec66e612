import java.util.ArrayList;
import java.util.List;
import java.util.Map;
import java.util.NoSuchElementException;
import java.util.TreeMap;

/**
 * Long runs of calls on the class and on the model, answer by answer; and, between the calls, all that
 * can be seen of the object. An object is good for 512 calls, so what is seen between is asked of new
 * objects that went through the same calls.
 */
public final class ModelRunsTest {
    private static final int CALLS = 512;
    private static final int RUNS = 240;
    private static final int QUIET = 45;
    private static final int MIN = Integer.MIN_VALUE;
    private static final int MAX = Integer.MAX_VALUE;

    private static final int PUT = 0;
    private static final int GET = 1;
    private static final int REMOVE = 2;
    private static final int SEEK = 3;
    private static final int NEXT = 4;
    private static final int CURSOR = 5;
    private static final int FLUSH = 6;
    private static final int DROP = 7;
    private static final int PAGE = 8;
    private static final int ITEM = 9;
    private static final int FRAME = 10;
    private static final int TOLD = 11;
    private static final int ASTRAY = 12;
    private static final String[] NAMES = {"put", "get", "remove", "seek", "next", "cursor", "flush",
        "drop", "page", "item", "frame", "told", "astray"};
    private static final int[] ARGUMENTS = {2, 1, 1, 1, 0, 1, 0, 0, 2, 3, 2, 1, 0};

    /** What the runs must have come through, or they would not tell what they are to tell. */
    private static final String[] CASES = {
        "drop", "drop: dirty", "drop: dirty, and the cursor stays", "drop: the cursor ends",
        "inner root splits", "inner splits", "leaf root splits", "leaf splits",
        "inner: its right one joins it", "inner: joins its left one",
        "inner: joins its left one, a right one is touched",
        "inner: the left one gives", "inner: the left one gives, a right one stays untouched",
        "inner: the right one gives", "inner: the right one gives, behind a left one",
        "leaf: its right one joins it", "leaf: joins its left one",
        "leaf: joins its left one, a right one is touched",
        "leaf: the left one gives", "leaf: the left one gives, a right one stays untouched",
        "leaf: the right one gives", "leaf: the right one gives, behind a left one",
        "levels 1", "levels 2", "levels 3", "levels 4",
        "look: a clean page leaves", "look: a dirty page leaves", "look: empty",
        "look: empty, after a page was freed in the call", "look: pinned", "look: round", "look: used",
        "next: ends", "next: goes on", "next: its leaf is read", "next: the next leaf",
        "seek: the next leaf",
        "put: had one", "put: no page is free", "put: too few pages are free",
        "put: throws, and the cursor stays", "remove: none", "the root goes",
    };

    private static final Check CHECK = new Check();
    private static final Map<String, Integer> SEEN = new TreeMap<>();
    private static final List<int[]> PROBES = probes();
    private static long seed = 1;

    public static void main(String[] args) {
        for (int run = 0; run < RUNS && CHECK.isClean(); run++) {
            seed = 7919L * run + 1;
            List<int[]> calls = makeRun(run);
            compareRun(run, calls);
            compareStates(run, calls, run < 9 ? 3 : 47);
        }
        for (String name : CASES) {
            if (!SEEN.containsKey(name)) {
                CHECK.tell("no run came through: " + name);
            }
        }
        CHECK.end();
    }

    // ---- runs

    /** A row of numbers that is always the same one. */
    private static int pick(int bound) {
        seed = seed * 6364136223846793005L + 1442695040888963407L;
        return (int) ((seed >>> 33) % bound);
    }

    private static List<int[]> makeRun(int run) {
        int[] ranges = {6, 14, 40, 70, 110, 160, 400, 2000, 0};
        int range = ranges[run % ranges.length];
        List<int[]> calls = new ArrayList<>();
        int grow = 60 + pick(35);
        int phase = 20 + pick(120);
        int order = pick(4);
        int at = 0;
        while (calls.size() < CALLS) {
            if (phase-- == 0) {
                grow = grow > 50 ? 2 + pick(30) : 60 + pick(40);
                phase = 20 + pick(140);
                order = pick(4);
                at = pick(50);
            }
            at++;
            int key = pickKey(range, order, at);
            int turn = calls.size() % (3 * QUIET);
            boolean quiet = run % 4 == 3 && turn < QUIET;
            calls.add(quiet ? pickQuietCall(turn, key) : pickCall(key, grow, range));
        }
        return calls;
    }

    private static int pickKey(int range, int order, int at) {
        if (range == 0) {
            int[] edges = {MIN, MIN + 1, -1, 0, 1, MAX - 1, MAX};
            return pick(3) == 0 ? edges[pick(edges.length)] : (pick(1 << 30) << 2) + pick(4);
        }
        if (order == 0) {
            return at % range - range / 3;
        }
        if (order == 1) {
            return range - range / 3 - at % range;
        }
        return pick(range) - range / 3;
    }

    private static int[] pickCall(int key, int grow, int range) {
        int dice = pick(100);
        if (dice < 68) {
            return pick(100) < grow ? new int[] {PUT, key, pick(5) == 0 ? 7 : pick(MAX)} : new int[] {REMOVE, key, 0};
        }
        if (dice < 74) {
            return new int[] {GET, key, 0};
        }
        if (dice < 80) {
            return new int[] {SEEK, pick(4) == 0 ? key - range : key, 0};
        }
        if (dice < 86) {
            return new int[] {NEXT, 0, 0};
        }
        if (dice < 88) {
            return new int[] {CURSOR, pick(2), 0};
        }
        if (dice < 90) {
            return new int[] {FLUSH, 0, 0};
        }
        if (dice < 92) {
            return new int[] {DROP, 0, 0};
        }
        if (dice < 94) {
            return new int[] {ASTRAY, 0, 0};
        }
        return PROBES.get(pick(PROBES.size()));
    }

    /** The cursor stays on while so many pages come that its leaf may have left when it goes on. */
    private static int[] pickQuietCall(int turn, int key) {
        if (turn == 0) {
            return new int[] {SEEK, key, 0};
        }
        return turn < QUIET - 5 ? new int[] {GET, key, 0} : new int[] {NEXT, 0, 0};
    }

    /** All calls that only look, with the edges and with what is none. */
    private static List<int[]> probes() {
        List<int[]> all = new ArrayList<>();
        int[] odd = {MIN, -2, 1000, MAX};
        for (int what = -2; what <= 10; what++) {
            all.add(new int[] {TOLD, what, 0});
        }
        for (int x : odd) {
            all.add(new int[] {TOLD, x, 0});
            all.add(new int[] {PAGE, x, 0});
            all.add(new int[] {PAGE, 0, x});
            all.add(new int[] {PAGE, x, x});
            all.add(new int[] {FRAME, x, 0});
            all.add(new int[] {FRAME, 0, x});
            all.add(new int[] {FRAME, x, x});
            all.add(new int[] {ITEM, x, 0, 0});
            all.add(new int[] {ITEM, 0, x, 0});
            all.add(new int[] {ITEM, 0, x, 1});
            all.add(new int[] {ITEM, 39, x, 0});
        }
        for (int frame = -1; frame <= 12; frame++) {
            for (int what = -1; what <= 3; what++) {
                all.add(new int[] {FRAME, frame, what});
            }
        }
        all.add(new int[] {CURSOR, 0, 0});
        all.add(new int[] {CURSOR, 1, 0});
        all.add(new int[] {ASTRAY, 0, 0});
        for (int page = -1; page <= 40; page++) {
            for (int what = -1; what <= 3; what++) {
                all.add(new int[] {PAGE, page, what});
            }
            for (int i = -1; i <= 5; i++) {
                all.add(new int[] {ITEM, page, i, 0});
                all.add(new int[] {ITEM, page, i, 1});
            }
        }
        return all;
    }

    // ---- comparing

    private static void compareRun(int run, List<int[]> calls) {
        PagedTree tree = new PagedTree();
        PagedTreeModel model = new PagedTreeModel(SEEN);
        for (int n = 0; n < calls.size() && CHECK.isClean(); n++) {
            compare(run, n, tree, model, calls.get(n));
        }
    }

    private static void compareStates(int run, List<int[]> calls, int step) {
        Map<String, Integer> unused = new TreeMap<>();
        for (int n = 1; n < CALLS && CHECK.isClean(); n += step) {
            PagedTreeModel model = new PagedTreeModel(unused);
            for (int i = 0; i < n; i++) {
                answer(model, calls.get(i));
            }
            int asked = 0;
            // Near the end of an object's calls a whole look would need too many objects.
            int most = n < 300 ? PROBES.size() : 8 * (CALLS - n);
            int start = n < 300 ? 0 : pick(PROBES.size());
            while (asked < most && asked < PROBES.size()) {
                PagedTree tree = new PagedTree();
                for (int i = 0; i < n; i++) {
                    answer(tree, calls.get(i));
                }
                for (int left = CALLS - n; left > 0 && asked < most && asked < PROBES.size(); left--) {
                    compare(run, n, tree, model, PROBES.get((start + asked) % PROBES.size()));
                    asked++;
                }
            }
        }
    }

    private static void compare(int run, int n, PagedTree tree, PagedTreeModel model, int[] call) {
        Object got = answer(tree, call);
        Object want = answer(model, call);
        CHECK.due("", 0, 0);
        if (!got.equals(want)) {
            CHECK.tell("run " + run + ", after " + n + " calls: " + write(call) + " answered " + got
                    + ", due is " + want);
        }
    }

    private static String write(int[] call) {
        StringBuilder text = new StringBuilder(NAMES[call[0]]).append('(');
        for (int i = 1; i <= ARGUMENTS[call[0]]; i++) {
            text.append(i == 1 ? "" : ", ").append(call[i]);
        }
        return text.append(')').toString();
    }

    private static Object answer(PagedTree tree, int[] c) {
        try {
            switch (c[0]) {
                case PUT: return tree.put(c[1], c[2]);
                case GET: return tree.get(c[1]);
                case REMOVE: return tree.remove(c[1]);
                case SEEK: return tree.seek(c[1]);
                case NEXT: return tree.next();
                case CURSOR: return tree.cursor(c[1] == 1);
                case FLUSH: return tree.flush();
                case DROP: return tree.drop();
                case PAGE: return tree.page(c[1], c[2]);
                case ITEM: return tree.item(c[1], c[2], c[3] == 1);
                case FRAME: return tree.frame(c[1], c[2]);
                case TOLD: return tree.told(c[1]);
                default: return tree.astray();
            }
        } catch (RuntimeException e) {
            return "throws." + e.getClass().getName();
        }
    }

    private static Object answer(PagedTreeModel model, int[] c) {
        try {
            switch (c[0]) {
                case PUT: return model.put(c[1], c[2]);
                case GET: return model.get(c[1]);
                case REMOVE: return model.remove(c[1]);
                case SEEK: return model.seek(c[1]);
                case NEXT: return model.next();
                case CURSOR: return model.cursor(c[1] == 1);
                case FLUSH: return model.flush();
                case DROP: return model.drop();
                case PAGE: return model.page(c[1], c[2]);
                case ITEM: return model.item(c[1], c[2], c[3] == 1);
                case FRAME: return model.frame(c[1], c[2]);
                case TOLD: return model.told(c[1]);
                default: return model.astray();
            }
        } catch (UnsupportedOperationException | NoSuchElementException | IllegalStateException
                | IndexOutOfBoundsException | IllegalArgumentException e) {
            return "throws." + e.getClass().getName();
        }
    }
}
