import java.lang.reflect.Field;

/**
 * "For how many pages what is said of them is not so": no run of calls brings an object there, so the
 * object's insides are broken by hand. It is the only test that knows how the state is held.
 */
public final class AstrayTest extends Look {
    private static final int ROOM = 5;

    public static void main(String[] args) throws ReflectiveOperationException {
        about("For how many pages what is said of them is not so: children, keys out of their place, frames twice.");
        wholeTree();
        childrenAstray();
        sizesAstray();
        keysAstray();
        marksAstray();
        framesAstray();
        CHECK.end();
    }

    /** Root 7 (2, 6 from 5 on); 2 (0, 1 from 3 on), 6 (3, 4 from 7 on, 5 from 9 on); each in its frame. */
    private static PagedTree eightPages() {
        return grown(1, 11);
    }

    private static int[] row(PagedTree tree, String part, String name) throws ReflectiveOperationException {
        Field partField = PagedTree.class.getDeclaredField(part);
        partField.setAccessible(true);
        Object inside = partField.get(tree);
        Field rowField = inside.getClass().getDeclaredField(name);
        rowField.setAccessible(true);
        return (int[]) rowField.get(inside);
    }

    private static void wholeTree() {
        PagedTree tree = eightPages();
        dueInner("the root", tree, 7, 2, 5, 6);
        dueInner("the first inner page", tree, 2, 0, 3, 1);
        dueInner("the other one", tree, 6, 3, 7, 4, 9, 5);
        due("nothing is astray", tree.astray(), 0);
    }

    private static void childrenAstray() throws ReflectiveOperationException {
        PagedTree twice = eightPages();
        row(twice, "disk", "seconds")[2 * ROOM + 1] = 0;
        due("0 is a child twice, and 1 is none", twice.astray(), 2);
        PagedTree lost = eightPages();
        row(lost, "disk", "seconds")[6 * ROOM + 2] = 8;
        due("5 is no child, and 8, which is free, is one", lost.astray(), 2);
        PagedTree root = eightPages();
        row(root, "disk", "seconds")[6 * ROOM + 2] = 7;
        due("the root is a child", root.astray() > 0, true);
        int[] none = {MIN, -1, 40, MAX};
        for (int page : none) {
            PagedTree tree = eightPages();
            row(tree, "disk", "seconds")[6 * ROOM] = page;
            due("a child that is no page: " + page, tree.astray() > 0, true);
        }
    }

    private static void sizesAstray() throws ReflectiveOperationException {
        PagedTree few = eightPages();
        row(few, "disk", "sizes")[4] = 1;
        due("a leaf with one entry", few.astray(), 1);
        PagedTree many = grown(1, 13);
        many.put(14, 140);
        due("a leaf with four entries", many.page(8, 1), 4);
        due("a leaf with four entries: astray", many.astray(), 0);
        row(many, "disk", "sizes")[8] = 5;
        row(many, "disk", "firsts")[8 * ROOM + 4] = 15;
        due("a leaf with five entries", many.astray(), 1);
        PagedTree one = eightPages();
        row(one, "disk", "sizes")[6] = 1;
        due("an inner page with one child", one.astray(), 3);
        PagedTree free = eightPages();
        row(free, "disk", "sizes")[20] = 1;
        due("a free page with an item", free.astray(), 1);
        PagedTree gone = new PagedTree();
        row(gone, "disk", "kinds")[0] = FREE;
        due("a root that is free", gone.astray(), 1);
    }

    private static void keysAstray() throws ReflectiveOperationException {
        PagedTree order = eightPages();
        row(order, "disk", "firsts")[5 * ROOM] = 11;
        due("keys of one leaf that do not rise", order.astray(), 1);
        PagedTree same = eightPages();
        row(same, "disk", "firsts")[0] = 2;
        due("a key that a leaf has twice", same.astray(), 1);
        PagedTree low = eightPages();
        row(low, "disk", "firsts")[4 * ROOM] = 6;
        due("a key below the mark of its leaf", low.astray(), 1);
        PagedTree high = eightPages();
        row(high, "disk", "firsts")[1] = 3;
        due("a key at the mark of the leaf behind", high.astray(), 1);
        PagedTree both = eightPages();
        row(both, "disk", "firsts")[1] = 3;
        row(both, "disk", "firsts")[4 * ROOM] = 6;
        due("in two leaves", both.astray(), 2);
    }

    private static void marksAstray() throws ReflectiveOperationException {
        PagedTree order = eightPages();
        row(order, "disk", "firsts")[6 * ROOM + 1] = 9;
        due("marks that do not rise, and keys that are not below them", order.astray(), 2);
        PagedTree low = eightPages();
        row(low, "disk", "firsts")[6 * ROOM + 1] = 4;
        due("a mark below that of its page, and keys above it", low.astray(), 2);
    }

    private static void framesAstray() throws ReflectiveOperationException {
        PagedTree twice = eightPages();
        due("page 3 in its frame", twice.frame(3, 0), 3);
        row(twice, "frames", "pages")[11] = 3;
        due("page 3 in two frames", twice.astray(), 1);
        row(twice, "frames", "pages")[10] = 3;
        due("page 3 in three frames", twice.astray(), 1);
        row(twice, "frames", "pages")[9] = 0;
        due("page 0 in two frames too", twice.astray(), 2);
        PagedTree free = eightPages();
        row(free, "frames", "pages")[8] = 20;
        due("a page that is free in a frame", free.astray(), 1);
        PagedTree none = eightPages();
        none.flush();
        none.drop();
        due("no page in any frame", none.astray(), 0);
    }
}
