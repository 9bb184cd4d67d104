import java.lang.reflect.Constructor;
import java.lang.reflect.Field;
import java.lang.reflect.Method;
import java.lang.reflect.Modifier;
import java.util.TreeSet;

/** The public face: the document's members and no others, and its constants. */
public final class FaceTest {
    public static void main(String[] args) {
        Due due = new Due();
        TreeSet<String> got = new TreeSet<>();
        Class<?> face = SelectedNodes.class;
        for (Field field : face.getDeclaredFields()) {
            if (!Modifier.isPrivate(field.getModifiers())) {
                got.add(field.toString());
            }
        }
        for (Constructor<?> constructor : face.getDeclaredConstructors()) {
            got.add(constructor.toString());
        }
        for (Method method : face.getDeclaredMethods()) {
            if (!Modifier.isPrivate(method.getModifiers())) {
                got.add(method.toString().replace("java.lang.", ""));
            }
        }
        TreeSet<String> want = new TreeSet<>();
        want.add("public static final int SelectedNodes.NONE");
        want.add("public static final int SelectedNodes.MANY");
        want.add("public SelectedNodes()");
        want.add("public boolean SelectedNodes.type(char)");
        want.add("public int SelectedNodes.wipe()");
        want.add("public int SelectedNodes.read()");
        want.add("public int SelectedNodes.select() throws IllegalStateException");
        want.add("public int SelectedNodes.nodes()");
        want.add("public int SelectedNodes.kind(int) throws IndexOutOfBoundsException");
        want.add("public int SelectedNodes.show(int,int) throws IndexOutOfBoundsException,IllegalArgumentException");
        want.add("public int SelectedNodes.length()");
        want.add("public char SelectedNodes.charAt(int)");
        due.same("the members", got, want);
        due.same("the class", Modifier.toString(face.getModifiers()), "public final");
        due.same("NONE", SelectedNodes.NONE, -1);
        due.same("MANY", SelectedNodes.MANY, -200);
        due.end();
    }
}
