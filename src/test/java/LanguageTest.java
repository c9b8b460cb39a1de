import java.io.IOException;
import java.lang.reflect.Constructor;
import java.lang.reflect.Field;
import java.lang.reflect.Method;
import java.lang.reflect.Modifier;
import java.nio.file.Files;
import java.nio.file.Path;
import java.util.ArrayList;
import java.util.List;

/** Those rules of LANGUAGE.md that can be seen in the classes, or in words of the source. */
public final class LanguageTest {
    private static final Path SOURCE = Path.of("src/main/java/StreamWatch.java");
    private static final String[] NOT_THERE = {"import ", "package ", "->", "::", "synchronized",
        "assert ", "try", "catch", "finally", "protected ", "static {", "new Object", "System.",
        "Exact(", "double ", "float ", "@"};

    public static void main(String[] args) throws IOException {
        List<Class<?>> all = new ArrayList<>();
        all.add(StreamWatch.class);
        all.addAll(List.of(StreamWatch.class.getDeclaredClasses()));
        Due.is("at most twelve classes", all.size() <= 12, true);
        for (Class<?> one : all) {
            fields(one);
            parameters(one);
        }
        namesOfPrivateMethods(all);
        List<String> lines = Files.readAllLines(SOURCE);
        wordsThatAreNotThere(lines);
        lengthsOfMethods(lines);
        Due.end();
    }

    /** Rules 5 and 11. */
    private static void fields(Class<?> one) {
        int ofObjects = 0;
        for (Field field : one.getDeclaredFields()) {
            if (Modifier.isStatic(field.getModifiers())) {
                Due.is(field + " is final", Modifier.isFinal(field.getModifiers()), true);
            } else {
                ofObjects++;
            }
        }
        Due.is(one + " has at most twenty fields", ofObjects <= 20, true);
    }

    /** Rule 11. */
    private static void parameters(Class<?> one) {
        for (Method method : one.getDeclaredMethods()) {
            Due.is(method + " takes at most seven", method.getParameterCount() <= 7, true);
        }
        for (Constructor<?> made : one.getDeclaredConstructors()) {
            Due.is(made + " takes at most seven", made.getParameterCount() <= 7, true);
        }
    }

    /** Rule 1. */
    private static void namesOfPrivateMethods(List<Class<?>> all) {
        List<String> names = new ArrayList<>();
        for (Method method : StreamWatch.class.getDeclaredMethods()) {
            if (Modifier.isPublic(method.getModifiers())) {
                names.add(method.getName());
            }
        }
        for (Class<?> one : all) {
            for (Method method : one.getDeclaredMethods()) {
                boolean isPrivate = Modifier.isPrivate(method.getModifiers());
                Due.is(method + " bears a public name", isPrivate && names.contains(method.getName()),
                        false);
            }
        }
    }

    /** Rules 2, 4, 5, 6 and 13. */
    private static void wordsThatAreNotThere(List<String> lines) {
        for (String line : lines) {
            for (String word : NOT_THERE) {
                boolean isComment = line.trim().startsWith("*") || line.trim().startsWith("/");
                Due.is("'" + word + "' in: " + line, !isComment && line.contains(word), false);
            }
        }
    }

    /** Rule 11: from the line that opens a block in a class to the brace that ends it there. */
    private static void lengthsOfMethods(List<String> lines) {
        for (int i = 0; i < lines.size(); i++) {
            String line = lines.get(i);
            int indent = line.length() - line.stripLeading().length();
            boolean isHead = line.endsWith("{") && line.contains("(") && indent <= 8;
            String end = " ".repeat(indent) + "}";
            for (int k = i; isHead && k < lines.size() && !lines.get(k).equals(end); k++) {
                Due.is("line " + (i + 1) + " begins more than sixty lines", k - i > 60, false);
            }
        }
    }
}
