import java.lang.reflect.Constructor;
import java.lang.reflect.Field;
import java.lang.reflect.Method;
import java.lang.reflect.Modifier;
import java.util.Arrays;
import java.util.TreeSet;

/** The public face: all that the document lists, and nothing else that is not private. */
public final class FaceTest {

    private static final String[] METHODS = {
        "int create(int) throws IllegalArgumentException IllegalStateException",
        "int open(int) throws IllegalArgumentException IllegalStateException",
        "int close(int) throws IndexOutOfBoundsException IllegalStateException",
        "int delete(int) throws IllegalArgumentException IllegalStateException",
        "int write(int int int) throws IndexOutOfBoundsException IllegalArgumentException IllegalStateException",
        "int flush(int) throws IndexOutOfBoundsException IllegalStateException",
        "int cut(int int) throws IndexOutOfBoundsException IllegalArgumentException IllegalStateException",
        "void crashBehind(int) throws IllegalArgumentException IllegalStateException",
        "void crash() throws IllegalStateException",
        "int start() throws IllegalStateException",
        "boolean isDown() throws",
        "int files() throws",
        "int listed() throws",
        "int opens(int) throws IndexOutOfBoundsException",
        "int free() throws",
        "int freeByFiles() throws",
        "int reserved() throws",
        "int kept() throws",
        "int pieces(int int) throws IndexOutOfBoundsException IllegalArgumentException",
        "boolean isFree(int) throws IndexOutOfBoundsException",
        "int blockAt(int int) throws IndexOutOfBoundsException IllegalArgumentException",
        "int extents(int) throws IndexOutOfBoundsException",
        "int extent(int int) throws IndexOutOfBoundsException",
        "float average(int) throws IndexOutOfBoundsException",
        "int fileOf(int) throws IllegalArgumentException",
        "int leaves() throws",
        "int looks(int) throws IllegalArgumentException",
    };

    public static void main(String[] args) {
        Class<?> face = Buddyfield.class;
        Due.same("public and final", face.getModifiers(), Modifier.PUBLIC | Modifier.FINAL);
        Due.same("methods", methodsOf(face), new TreeSet<>(Arrays.asList(METHODS)));
        Due.same("fields", fieldsOf(face), new TreeSet<>(Arrays.asList("int NONE", "int RESERVED")));
        constructors(face);
        privateNames(face);
        Due.end("the face");
    }

    private static TreeSet<String> methodsOf(Class<?> face) {
        TreeSet<String> found = new TreeSet<>();
        for (Method method : face.getDeclaredMethods()) {
            if (!Modifier.isPrivate(method.getModifiers())) {
                Due.same(method + " is public alone", method.getModifiers(), Modifier.PUBLIC);
                found.add((method.getReturnType() + " " + method.getName()
                        + "(" + names(method.getParameterTypes()) + ") throws "
                        + names(method.getExceptionTypes())).trim());
            }
        }
        return found;
    }

    private static String names(Class<?>[] types) {
        StringBuilder text = new StringBuilder();
        for (Class<?> type : types) {
            text.append(text.length() == 0 ? "" : " ").append(type.getSimpleName());
        }
        return text.toString();
    }

    private static TreeSet<String> fieldsOf(Class<?> face) {
        TreeSet<String> found = new TreeSet<>();
        for (Field field : face.getDeclaredFields()) {
            if (!Modifier.isPrivate(field.getModifiers())) {
                Due.same(field.getName() + " is a constant", field.getModifiers(),
                        Modifier.PUBLIC | Modifier.STATIC | Modifier.FINAL);
                found.add(field.getType() + " " + field.getName());
            }
        }
        return found;
    }

    private static void constructors(Class<?> face) {
        Constructor<?>[] found = face.getDeclaredConstructors();
        Due.same("constructors", found.length, 1);
        Due.same("public", found[0].getModifiers(), Modifier.PUBLIC);
        Due.same("without arguments", found[0].getParameterCount(), 0);
    }

    /** Rule 1 of LANGUAGE.md; the classes inside keep to it too, so that no name tells two things. */
    private static void privateNames(Class<?> face) {
        TreeSet<String> open = new TreeSet<>();
        for (Method method : face.getMethods()) {
            open.add(method.getName());
        }
        noneOf(open, face);
        for (Class<?> inside : face.getDeclaredClasses()) {
            Due.same(inside + " is static", Modifier.isStatic(inside.getModifiers()), true);
            noneOf(open, inside);
        }
    }

    private static void noneOf(TreeSet<String> open, Class<?> owner) {
        for (Method method : owner.getDeclaredMethods()) {
            if (Modifier.isPrivate(method.getModifiers())) {
                Due.same(method + " has a public one's name", open.contains(method.getName()), false);
            }
        }
    }
}
