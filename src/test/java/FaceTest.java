import java.lang.reflect.Constructor;
import java.lang.reflect.Field;
import java.lang.reflect.Method;
import java.lang.reflect.Modifier;
import java.util.Set;
import java.util.TreeSet;

/** The class shows just the document's constants, constructor and methods, and nothing else outside itself. */
public final class FaceTest {
    private static final String BOUNDS = "IndexOutOfBoundsException";
    private static final String ARGUMENT = "IllegalArgumentException";
    private static final String STATE = "IllegalStateException";
    private static final String UNSUPPORTED = "UnsupportedOperationException";

    private static String line(String result, String name, int ints, String... thrown) {
        return result + " " + name + " " + ints + " " + String.join(",", thrown);
    }

    private static Set<String> document() {
        Set<String> face = new TreeSet<>();
        face.add(line("int", "purse", 1, ARGUMENT, UNSUPPORTED));
        face.add(line("int", "begin", 3, BOUNDS, ARGUMENT, UNSUPPORTED));
        face.add(line("boolean", "deliver", 1, BOUNDS, UNSUPPORTED));
        face.add(line("int", "abort", 1, BOUNDS));
        face.add(line("int", "readLog", 1, BOUNDS, STATE, UNSUPPORTED));
        face.add(line("int", "authorise", 1, BOUNDS, STATE, UNSUPPORTED));
        face.add(line("int", "refund", 1, BOUNDS, STATE));
        face.add(line("int", "told", 2, BOUNDS, ARGUMENT));
        face.add(line("int", "transfer", 2, BOUNDS, ARGUMENT));
        face.add(line("int", "log", 3, BOUNDS, ARGUMENT));
        face.add(line("int", "messages", 0));
        face.add(line("int", "message", 2, BOUNDS, ARGUMENT));
        face.add(line("int", "entries", 0));
        face.add(line("int", "entry", 2, BOUNDS, ARGUMENT));
        face.add(line("long", "balances", 0));
        face.add(line("long", "pending", 0));
        face.add(line("int", "purses", 0));
        return face;
    }

    private static String shown(Method m) {
        String[] thrown = new String[m.getExceptionTypes().length];
        for (int i = 0; i < thrown.length; i++) {
            thrown[i] = m.getExceptionTypes()[i].getSimpleName();
        }
        for (Class<?> type : m.getParameterTypes()) {
            if (type != int.class) {
                return m + " takes more than ints";
            }
        }
        return line(m.getReturnType().getName(), m.getName(), m.getParameterCount(), thrown);
    }

    public static void main(String[] args) {
        Check check = new Check();
        Class<?> c = PurseWorld.class;
        check.due("the class's modifiers", c.getModifiers(), Modifier.PUBLIC | Modifier.FINAL);
        check.due("NONE", PurseWorld.NONE, -1);

        Set<String> methods = new TreeSet<>();
        Set<String> publicNames = new TreeSet<>();
        for (Method m : c.getDeclaredMethods()) {
            if (Modifier.isPublic(m.getModifiers())) {
                methods.add(shown(m));
                publicNames.add(m.getName());
            }
        }
        check.due("the public methods", methods, document());
        for (Method m : c.getDeclaredMethods()) {
            if (!Modifier.isPublic(m.getModifiers())) {
                check.due(m + " is private", Modifier.isPrivate(m.getModifiers()), true);
                check.due(m + " bears the name of a public one", publicNames.contains(m.getName()), false);
            }
        }

        Constructor<?>[] made = c.getDeclaredConstructors();
        check.due("how many constructors", made.length, 1);
        check.due("the constructor is public", Modifier.isPublic(made[0].getModifiers()), true);
        check.due("the constructor's parameters", made[0].getParameterCount(), 0);

        for (Field f : c.getDeclaredFields()) {
            boolean isNone = f.getName().equals("NONE");
            int visible = isNone ? Modifier.PUBLIC : Modifier.PRIVATE;
            check.due(f + " is as visible as it should be", f.getModifiers() & ~Modifier.STATIC & ~Modifier.FINAL, visible);
            if (Modifier.isStatic(f.getModifiers())) {
                check.due(f + " is final", Modifier.isFinal(f.getModifiers()), true);
            }
        }
        for (Class<?> inside : c.getDeclaredClasses()) {
            check.due(inside + " is static", Modifier.isStatic(inside.getModifiers()), true);
        }
        check.end();
    }
}
