import java.io.IOException;
import java.lang.reflect.InvocationTargetException;
import java.lang.reflect.Method;
import java.lang.reflect.Modifier;
import java.nio.file.Files;
import java.nio.file.Path;
import java.util.ArrayList;
import java.util.List;
import java.util.Set;
import java.util.TreeSet;
import java.util.regex.Matcher;
import java.util.regex.Pattern;

/**
 * README.md: the calls that its examples show answer what it says, each call of the face is shown
 * and told with what it throws, and the tests that it names are there.
 */
public final class ReadmeTest {
    private static final Path README = Path.of("README.md");
    private static final Path DOCUMENT = Path.of("../shared/DOC.md");
    private static final Path TESTS = Path.of("src/test/java");

    private static final Pattern MADE =
            Pattern.compile("StreamWatch x = new StreamWatch\\((-?\\d+)\\);( +// .+)?");
    private static final Pattern CALL =
            Pattern.compile("x\\.(\\w+)\\((.*)\\); +// (throws \\w+|-?\\w+): .+");
    private static final Pattern FACE_LINE =
            Pattern.compile(" *public ((?:\\w+ )?\\w+\\(.*?\\))(?: throws (.*))?;");
    private static final Pattern TABLE_ROW =
            Pattern.compile("\\| `([^`]*\\(.*?\\))` \\| .+ \\| (.+) \\|");
    private static final Pattern EXCEPTION = Pattern.compile("\\w+Exception");
    private static final Pattern TEST_NAME = Pattern.compile("`(\\w+Test)`");

    private final Set<String> shown = new TreeSet<>();
    private StreamWatch x = null;
    private int calls = 0;

    public static void main(String[] args) throws IOException {
        List<String> readme = Files.readAllLines(README);
        ReadmeTest test = new ReadmeTest();
        test.examples(readme);
        test.everyCallIsShown();
        everyCallIsTold(readme);
        testsAreThere(readme);
        Due.end();
    }

    private void examples(List<String> readme) {
        int blocks = 0;
        boolean isInside = false;
        for (String line : readme) {
            if (line.startsWith("```")) {
                isInside = line.equals("```java");
                blocks += isInside ? 1 : 0;
                x = null;
            } else if (isInside) {
                example(line);
            }
        }
        Due.is("README.md has examples", blocks > 0, true);
    }

    private void example(String line) {
        Matcher made = MADE.matcher(line);
        Matcher call = CALL.matcher(line);
        if (made.matches()) {
            x = new StreamWatch(Integer.parseInt(made.group(1)));
            calls = 0;
        } else if (call.matches() && x != null) {
            calls++;
            Due.is("calls on one object: " + calls, calls <= 512, true);
            String got = answer(call.group(1), call.group(2));
            Due.is(line, got, call.group(3).equals("NONE") ? "-1" : call.group(3));
        } else {
            Due.is("a line of an example that can't be read: " + line, false, true);
        }
    }

    /** What the call answers, as README.md writes it. */
    private String answer(String name, String arguments) {
        Method method = methodOf(name);
        if (method == null) {
            return "no such call";
        }
        try {
            Object got = method.invoke(x, read(arguments, method.getParameterTypes()));
            shown.add(name);
            return got == null ? "nothing" : got.toString();
        } catch (InvocationTargetException e) {
            String thrown = "throws " + e.getCause().getClass().getSimpleName();
            shown.add(name + " " + thrown);
            return thrown;
        } catch (IllegalAccessException | IllegalArgumentException e) {
            return "arguments that can't be read: " + e.getMessage();
        }
    }

    private static Method methodOf(String name) {
        for (Method method : StreamWatch.class.getMethods()) {
            if (method.getName().equals(name) && method.getDeclaringClass() == StreamWatch.class) {
                return method;
            }
        }
        return null;
    }

    private static Object[] read(String arguments, Class<?>[] types) {
        String[] words = arguments.isEmpty() ? new String[0] : arguments.split(", ");
        if (words.length != types.length) {
            throw new IllegalArgumentException("there are " + words.length);
        }
        Object[] values = new Object[words.length];
        for (int i = 0; i < words.length; i++) {
            boolean isLong = types[i] == long.class;
            String digits = isLong && words[i].endsWith("L")
                    ? words[i].substring(0, words[i].length() - 1) : words[i];
            if (isLong) {
                values[i] = Long.decode(digits);
            } else {
                values[i] = Integer.decode(digits);
            }
        }
        return values;
    }

    private void everyCallIsShown() {
        for (Method method : StreamWatch.class.getDeclaredMethods()) {
            if (Modifier.isPublic(method.getModifiers())) {
                Due.is("shown: " + method.getName(), shown.contains(method.getName()), true);
                for (Class<?> thrown : method.getExceptionTypes()) {
                    String throwing = method.getName() + " throws " + thrown.getSimpleName();
                    Due.is("shown: " + throwing, shown.contains(throwing), true);
                }
            }
        }
    }

    /** The document's face and the table have the same calls, with the same exceptions. */
    private static void everyCallIsTold(List<String> readme) throws IOException {
        List<String> face = new ArrayList<>();
        for (String line : Files.readAllLines(DOCUMENT)) {
            Matcher one = FACE_LINE.matcher(line);
            if (one.matches()) {
                face.add(one.group(1) + " " + exceptionsIn(one.group(2)));
            }
        }
        List<String> told = new ArrayList<>();
        for (String line : readme) {
            Matcher row = TABLE_ROW.matcher(line);
            if (row.matches()) {
                told.add(row.group(1) + " " + exceptionsIn(row.group(2)));
            }
        }
        Due.is("calls of the face", face.size(), 15);
        Due.is("the table of calls", String.join("\n", told), String.join("\n", face));
    }

    private static Set<String> exceptionsIn(String words) {
        Set<String> names = new TreeSet<>();
        Matcher name = EXCEPTION.matcher(words == null ? "" : words);
        while (name.find()) {
            names.add(name.group());
        }
        return names;
    }

    private static void testsAreThere(List<String> readme) throws IOException {
        Set<String> named = new TreeSet<>();
        for (String line : readme) {
            Matcher name = TEST_NAME.matcher(line);
            while (name.find()) {
                named.add(name.group(1));
            }
        }
        // README.md names the tests between the first and the last promise by two points.
        for (int promise = 1; promise <= 15; promise++) {
            named.add(String.format("Promise%02dTest", promise));
        }
        Set<String> there = new TreeSet<>();
        for (String file : TESTS.toFile().list()) {
            if (file.endsWith("Test.java")) {
                there.add(file.substring(0, file.length() - ".java".length()));
            }
        }
        Due.is("the tests that README.md names", named.toString(), there.toString());
    }
}
