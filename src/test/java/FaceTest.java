import java.lang.reflect.Constructor;
import java.lang.reflect.Field;
import java.lang.reflect.Method;
import java.lang.reflect.Modifier;
import java.util.Arrays;
import java.util.TreeSet;

/** The face of the document, all of it and nothing else that can be seen. */
public final class FaceTest {
    private static final String[] FACE = {
        "public boolean PagedTree.put(int,int) throws java.lang.UnsupportedOperationException",
        "public int PagedTree.get(int) throws java.util.NoSuchElementException",
        "public boolean PagedTree.remove(int)",
        "public boolean PagedTree.seek(int)",
        "public boolean PagedTree.next() throws java.util.NoSuchElementException",
        "public int PagedTree.cursor(boolean) throws java.util.NoSuchElementException",
        "public int PagedTree.flush()",
        "public int PagedTree.drop() throws java.lang.IllegalStateException",
        "public int PagedTree.page(int,int) throws java.lang.IndexOutOfBoundsException,"
                + "java.lang.IllegalArgumentException",
        "public int PagedTree.item(int,int,boolean) throws java.lang.IndexOutOfBoundsException",
        "public int PagedTree.frame(int,int) throws java.lang.IndexOutOfBoundsException,"
                + "java.lang.IllegalArgumentException",
        "public int PagedTree.told(int)",
        "public int PagedTree.astray()",
        "public PagedTree()",
        "public static final int PagedTree.NONE",
    };

    public static void main(String[] args) {
        Check check = new Check();
        TreeSet<String> seen = new TreeSet<>();
        TreeSet<String> publicNames = new TreeSet<>();
        for (Method m : PagedTree.class.getDeclaredMethods()) {
            if (!Modifier.isPrivate(m.getModifiers())) {
                seen.add(m.toGenericString());
                publicNames.add(m.getName());
            }
        }
        for (Constructor<?> c : PagedTree.class.getDeclaredConstructors()) {
            if (!Modifier.isPrivate(c.getModifiers())) {
                seen.add(c.toGenericString());
            }
        }
        for (Field f : PagedTree.class.getDeclaredFields()) {
            if (!Modifier.isPrivate(f.getModifiers())) {
                seen.add(f.toGenericString());
            }
        }
        TreeSet<String> missing = new TreeSet<>(Arrays.asList(FACE));
        missing.removeAll(seen);
        seen.removeAll(Arrays.asList(FACE));
        for (String s : missing) {
            check.tell("not in the face: " + s);
        }
        for (String s : seen) {
            check.tell("too much in the face: " + s);
        }
        for (Method m : PagedTree.class.getDeclaredMethods()) {
            check.due("a private method has the public name " + m.getName(),
                    Modifier.isPrivate(m.getModifiers()) && publicNames.contains(m.getName()), false);
        }
        for (Field f : PagedTree.class.getDeclaredFields()) {
            check.due("the static field " + f.getName() + " can change",
                    Modifier.isStatic(f.getModifiers()) && !Modifier.isFinal(f.getModifiers()), false);
        }
        for (Class<?> c : PagedTree.class.getDeclaredClasses()) {
            int inside = c.getModifiers();
            check.due(c.getName() + " is static", Modifier.isStatic(inside), true);
            check.due(c.getName() + " is seen outside", Modifier.isPublic(inside) || Modifier.isProtected(inside), false);
        }
        check.due("the class above it is Object", PagedTree.class.getSuperclass() == Object.class, true);
        check.due("interfaces", PagedTree.class.getInterfaces().length, 0);
        int modifiers = PagedTree.class.getModifiers();
        check.due("the class is public", Modifier.isPublic(modifiers), true);
        check.due("the class is final", Modifier.isFinal(modifiers), true);
        check.due("NONE", PagedTree.NONE, -1);
        check.end();
    }
}
