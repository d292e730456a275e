import java.lang.reflect.Constructor;
import java.lang.reflect.Field;
import java.lang.reflect.Method;
import java.lang.reflect.Modifier;
import java.util.Set;
import java.util.TreeSet;

/** The public face is the document's, and nothing else can be seen. */
public final class FaceTest {
    private static final String[] FACE = {
        "void poke(int, int) IndexOutOfBoundsException",
        "int declare(int, int) IllegalArgumentException IllegalStateException",
        "void data(int, int) IndexOutOfBoundsException",
        "int analyse() UnsupportedOperationException",
        "int block(int, int) IndexOutOfBoundsException IllegalArgumentException",
        "int blockAt(int)",
        "int rewrite() IllegalStateException UnsupportedOperationException",
        "int code(int, boolean) IndexOutOfBoundsException IllegalStateException",
        "int run(boolean, int) IllegalArgumentException IllegalStateException",
        "int steps()",
        "int register(int) IndexOutOfBoundsException",
        "int cell(int) IndexOutOfBoundsException",
        "int output(int) IndexOutOfBoundsException",
        "long counter(int) IndexOutOfBoundsException",
    };

    public static void main(String[] args) {
        Check check = new Check("FaceTest");
        Class<?> seen = BlockCounter.class;
        check.same("modifiers", Modifier.toString(seen.getModifiers()), "public final");
        check.same("methods", methods(seen).toString(), new TreeSet<>(Set.of(FACE)).toString());
        int constructors = 0;
        for (Constructor<?> c : seen.getDeclaredConstructors()) {
            constructors++;
            check.same("constructor", c.toString(), "public BlockCounter()");
        }
        int count = constructors;
        check.due("constructors", () -> count, 1);
        for (Field f : seen.getDeclaredFields()) {
            check.same(f.toString(), Boolean.toString(Modifier.isPrivate(f.getModifiers())), "true");
        }
        for (Class<?> c : seen.getDeclaredClasses()) {
            check.same(c + " is static", Boolean.toString(Modifier.isStatic(c.getModifiers())), "true");
            int open = c.getModifiers() & (Modifier.PUBLIC | Modifier.PROTECTED);
            check.due(c + " is hidden", () -> open, 0);
        }
        check.end();
    }

    private static Set<String> methods(Class<?> seen) {
        Set<String> all = new TreeSet<>();
        for (Method m : seen.getDeclaredMethods()) {
            if (!Modifier.isPrivate(m.getModifiers())) {
                all.add(text(m));
            }
        }
        return all;
    }

    private static String text(Method m) {
        StringBuilder text = new StringBuilder();
        text.append(m.getReturnType().getSimpleName()).append(' ').append(m.getName()).append('(');
        String between = "";
        for (Class<?> p : m.getParameterTypes()) {
            text.append(between).append(p.getSimpleName());
            between = ", ";
        }
        text.append(')');
        for (Class<?> e : m.getExceptionTypes()) {
            text.append(' ').append(e.getSimpleName());
        }
        return text.toString();
    }
}
