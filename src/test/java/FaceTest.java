import java.lang.reflect.Constructor;
import java.lang.reflect.Field;
import java.lang.reflect.Method;
import java.lang.reflect.Modifier;
import java.nio.file.Files;
import java.nio.file.Path;
import java.util.Arrays;
import java.util.Set;
import java.util.TreeSet;

/** The public face, and what of LANGUAGE.md can be seen from outside or in the text. */
public final class FaceTest {
    private static final String[] FACE = {
        "int begin() throws IllegalStateException",
        "int take(int) throws IllegalStateException, IllegalArgumentException",
        "int give(int) throws IllegalStateException, IllegalArgumentException",
        "boolean set(int, int, long) throws IllegalStateException, IllegalArgumentException",
        "long get(int, int) throws IllegalStateException, IllegalArgumentException",
        "boolean setRoot(int) throws IllegalStateException, IllegalArgumentException",
        "int root() throws IllegalStateException",
        "int commit(boolean) throws IllegalStateException",
        "int sync() throws IllegalStateException",
        "int abort() throws IllegalStateException",
        "int checkpoint() throws IllegalStateException",
        "int power(int, int) throws IllegalArgumentException",
        "int cut(int) throws IllegalStateException, IllegalArgumentException",
        "int open() throws IllegalStateException",
        "long word(int) throws IndexOutOfBoundsException",
        "int block(int, int) throws IllegalStateException, IndexOutOfBoundsException",
        "int told(int) throws IllegalStateException, IndexOutOfBoundsException",
        "int count(int) throws IndexOutOfBoundsException",
    };

    private static final String[] NOT_WRITTEN = {
        "import ", "->", "::", "finally", "synchronized", "assert ", "catch", "instanceof", "Exact(", "package ",
        "hashCode", "toString", "getMessage", "System.out", "Random", "Thread",
    };

    public static void main(String[] args) throws Exception {
        constants();
        members();
        text();
        Check.done("FaceTest");
    }

    private static void constants() {
        Check.due("NONE", RedoHeap.NONE, -1);
        Check.due("OFF", RedoHeap.OFF, -2);
    }

    private static void members() {
        Check.due("public final", Modifier.toString(RedoHeap.class.getModifiers()), "public final");
        Set<String> open = new TreeSet<>();
        Set<String> names = new TreeSet<>();
        for (Method m : RedoHeap.class.getDeclaredMethods()) {
            if (!Modifier.isPrivate(m.getModifiers())) {
                open.add(written(m));
                names.add(m.getName());
            }
        }
        Check.due("the methods", open.toString(), new TreeSet<>(Arrays.asList(FACE)).toString());
        for (Method m : RedoHeap.class.getDeclaredMethods()) {
            boolean hidden = Modifier.isPrivate(m.getModifiers());
            Check.due("private " + m.getName(), hidden && names.contains(m.getName()), false);
        }
        for (Field f : RedoHeap.class.getDeclaredFields()) {
            boolean constant = f.getName().equals("NONE") || f.getName().equals("OFF");
            Check.due("field " + f.getName(), Modifier.isPrivate(f.getModifiers()), !constant);
            Check.due("field " + f.getName() + " final", Modifier.isFinal(f.getModifiers()), true);
        }
        Constructor<?>[] makers = RedoHeap.class.getDeclaredConstructors();
        Check.due("constructors", makers.length, 1);
        Check.due("constructor", makers[0].toString(), "public RedoHeap()");
        for (Class<?> c : RedoHeap.class.getDeclaredClasses()) {
            Check.due("static " + c.getName(), Modifier.isStatic(c.getModifiers()), true);
        }
    }

    private static String written(Method m) {
        StringBuilder text = new StringBuilder();
        text.append(m.getReturnType().getSimpleName()).append(' ').append(m.getName()).append('(');
        text.append(joined(m.getParameterTypes())).append(") throws ").append(joined(m.getExceptionTypes()));
        return text.toString();
    }

    private static String joined(Class<?>[] types) {
        StringBuilder text = new StringBuilder();
        for (Class<?> type : types) {
            text.append(text.length() == 0 ? "" : ", ").append(type.getSimpleName());
        }
        return text.toString();
    }

    private static void text() throws Exception {
        String source = Files.readString(Path.of("src/main/java/RedoHeap.java"));
        for (String part : NOT_WRITTEN) {
            Check.due("written: " + part, source.contains(part), false);
        }
    }
}
