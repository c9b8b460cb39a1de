import java.lang.reflect.Constructor;
import java.lang.reflect.Field;
import java.lang.reflect.Method;
import java.lang.reflect.Modifier;
import java.util.TreeSet;

/** The public face: what the document lists, and nothing more that could be seen from outside. */
public final class FaceTest {
    private static final String[] METHODS = {
        "int alert(int, int)", "int alerts()", "boolean alter(int, int)",
        "int craft(int, int, int, int, int, long) IllegalArgumentException",
        "int flow(int, int)",
        "int option(int, long, int, int, int) IllegalArgumentException IllegalStateException",
        "boolean put(int, long)", "int rule(int, int) IllegalArgumentException IllegalStateException",
        "boolean seal()", "int stream(int, int, int)", "int text(int, int, int)", "int watch()",
        "void wipe()", "int wire(int)"};

    public static void main(String[] args) {
        TreeSet<String> want = new TreeSet<>();
        for (String one : METHODS) {
            want.add(one);
        }
        want.add("NONE");
        want.add("(int)");
        TreeSet<String> got = new TreeSet<>();
        for (Method one : StreamWatch.class.getDeclaredMethods()) {
            if (!Modifier.isPrivate(one.getModifiers())) {
                got.add(one.getReturnType() + " " + one.getName() + types(one.getParameterTypes(), ", ")
                        + names(one.getExceptionTypes()));
            }
        }
        for (Field one : StreamWatch.class.getDeclaredFields()) {
            if (!Modifier.isPrivate(one.getModifiers())) {
                got.add(one.getName());
            }
        }
        for (Constructor<?> one : StreamWatch.class.getDeclaredConstructors()) {
            got.add(types(one.getParameterTypes(), ", "));
        }
        Due.is("the face", got.toString(), want.toString());
        int modifiers = StreamWatch.class.getModifiers();
        Due.is("public and final", Modifier.isPublic(modifiers) && Modifier.isFinal(modifiers), true);
        for (Class<?> one : StreamWatch.class.getDeclaredClasses()) {
            Due.is(one + " is static", Modifier.isStatic(one.getModifiers()), true);
            Due.is(one + " is public", Modifier.isPublic(one.getModifiers()), false);
        }
        Due.end();
    }

    private static String types(Class<?>[] types, String between) {
        StringBuilder all = new StringBuilder("(");
        for (int i = 0; i < types.length; i++) {
            all.append(i == 0 ? "" : between).append(types[i].getSimpleName());
        }
        return all.append(")").toString();
    }

    private static String names(Class<?>[] types) {
        StringBuilder all = new StringBuilder();
        for (Class<?> one : types) {
            all.append(" ").append(one.getSimpleName());
        }
        return all.toString();
    }
}
