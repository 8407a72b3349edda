import java.lang.reflect.Constructor;
import java.lang.reflect.Field;
import java.lang.reflect.Method;
import java.lang.reflect.Modifier;
import java.util.Arrays;
import java.util.TreeSet;

/** The public face is the document's, to the last throws, and nothing else can be seen from outside. */
public final class FaceTest {
    private static final String[] METHODS = {
        "void disk(int, int) throws IndexOutOfBoundsException, IllegalStateException, IllegalArgumentException",
        "int chunk() throws UnsupportedOperationException",
        "int chunks(int) throws IllegalArgumentException",
        "int free(int) throws IndexOutOfBoundsException",
        "void write(int, int, int) throws IndexOutOfBoundsException, IllegalStateException",
        "int read(int, int) throws IndexOutOfBoundsException, IllegalStateException",
        "int fail(int) throws IndexOutOfBoundsException",
        "int leave(int) throws IndexOutOfBoundsException, IllegalStateException, UnsupportedOperationException",
        "void stay(int) throws IndexOutOfBoundsException, IllegalStateException",
        "int step()",
        "int steps(int) throws IllegalArgumentException",
        "int place(int, boolean) throws IndexOutOfBoundsException",
        "int about(int, int) throws IndexOutOfBoundsException, IllegalArgumentException",
        "int count(int) throws IllegalArgumentException",
    };

    public static void main(String[] args) {
        Check check = new Check();
        check.due("the class is public and final", Modifier.PUBLIC | Modifier.FINAL, TwinPool.class.getModifiers());
        check.due("NONE", -1, TwinPool.NONE);
        check.due("the methods", new TreeSet<>(Arrays.asList(METHODS)), methodsOfTheFace());
        check.due("the fields", "[public static final int TwinPool.NONE]", fieldsOfTheFace().toString());
        check.due("the constructors", "[public TwinPool()]", constructors().toString());
        check.due("private methods with the name of a public one", "[]", namesTwice().toString());
        check.end();
    }

    private static TreeSet<String> methodsOfTheFace() {
        TreeSet<String> found = new TreeSet<>();
        for (Method m : TwinPool.class.getDeclaredMethods()) {
            if (!Modifier.isPrivate(m.getModifiers())) {
                found.add((m.getModifiers() == Modifier.PUBLIC ? "" : Modifier.toString(m.getModifiers()) + "! ")
                        + m.getReturnType().getSimpleName() + " " + m.getName()
                        + "(" + names(m.getParameterTypes()) + ")"
                        + (m.getExceptionTypes().length == 0 ? "" : " throws " + names(m.getExceptionTypes())));
            }
        }
        return found;
    }

    private static TreeSet<String> fieldsOfTheFace() {
        TreeSet<String> found = new TreeSet<>();
        for (Field f : TwinPool.class.getDeclaredFields()) {
            if (!Modifier.isPrivate(f.getModifiers())) {
                found.add(f.toString());
            }
        }
        return found;
    }

    private static TreeSet<String> constructors() {
        TreeSet<String> found = new TreeSet<>();
        for (Constructor<?> c : TwinPool.class.getDeclaredConstructors()) {
            found.add(c.toString());
        }
        return found;
    }

    private static TreeSet<String> namesTwice() {
        TreeSet<String> seen = new TreeSet<>();
        TreeSet<String> twice = new TreeSet<>();
        for (Method m : TwinPool.class.getDeclaredMethods()) {
            if (!seen.add(m.getName())) {
                twice.add(m.getName());
            }
        }
        return twice;
    }

    private static String names(Class<?>[] types) {
        StringBuilder text = new StringBuilder();
        for (Class<?> t : types) {
            text.append(text.length() == 0 ? "" : ", ").append(t.getSimpleName());
        }
        return text.toString();
    }
}
