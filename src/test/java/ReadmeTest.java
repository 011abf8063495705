import java.io.IOException;
import java.lang.reflect.InvocationTargetException;
import java.lang.reflect.Method;
import java.lang.reflect.Modifier;
import java.nio.file.Files;
import java.nio.file.Path;
import java.util.ArrayList;
import java.util.HashSet;
import java.util.List;
import java.util.Set;
import java.util.regex.Matcher;
import java.util.regex.Pattern;

/** What README.md shows of the class's use and of the tests holds as it is written there. */
public final class ReadmeTest {
    private static final Check C = new Check();
    private static final String NEW_OBJECT = "PatternColumns x = new PatternColumns();";
    private static final Pattern CALL =
            Pattern.compile("x\\.(\\w+)\\(((?:-?\\d+(?:, -?\\d+)*)?)\\);(?:\\s+//\\s(.*))?");
    private static final Pattern ANSWER = Pattern.compile("(-?\\d+|throws \\w+): .*");
    private static final Pattern TEST_NAME = Pattern.compile("`(\\w+Test)`");

    public static void main(String[] args) throws IOException, InterruptedException {
        List<String> lines = Files.readAllLines(Path.of("README.md"));
        calls(blocks(lines, "```java"));
        tests(String.join("\n", lines));
        commands(blocks(lines, "```sh"));
        C.end("ReadmeTest");
    }

    /** The lines of all blocks of a kind, from the first block on. */
    private static List<String> blocks(List<String> lines, String kind) {
        List<String> found = new ArrayList<>();
        boolean inside = false;
        for (String line : lines) {
            if (line.startsWith("```")) {
                inside = line.equals(kind);
            } else if (inside) {
                found.add(line);
            }
        }
        C.isTrue("README.md has " + kind, !found.isEmpty());
        return found;
    }

    /** Every line is made on one object; every method of the face is shown. */
    private static void calls(List<String> lines) {
        Set<String> shown = new HashSet<>();
        PatternColumns x = null;
        for (String line : lines) {
            Matcher call = CALL.matcher(line);
            if (line.equals(NEW_OBJECT)) {
                x = new PatternColumns();
            } else if (x == null || !call.matches()) {
                C.isTrue("README.md has a call: " + line, false);
            } else {
                shown.add(call.group(1));
                C.same("README.md, " + line, due(call.group(1), call.group(3)), answer(x, call));
            }
        }
        for (Method method : PatternColumns.class.getDeclaredMethods()) {
            if (Modifier.isPublic(method.getModifiers())) {
                C.isTrue("README.md shows " + method.getName(), shown.contains(method.getName()));
            }
        }
    }

    /** A call that answers nothing may have any words behind it, every other one has its answer there. */
    private static String due(String name, String words) {
        Matcher answer = ANSWER.matcher(words == null ? "" : words);
        if (answer.matches()) {
            return answer.group(1);
        }
        Method method = method(name);
        return method != null && method.getReturnType() == void.class ? "null" : "an answer is not told";
    }

    private static String answer(PatternColumns x, Matcher call) {
        Method method = method(call.group(1));
        String[] words = call.group(2).isEmpty() ? new String[0] : call.group(2).split(", ");
        if (method == null || method.getParameterCount() != words.length) {
            return "no such call";
        }
        Object[] numbers = new Object[words.length];
        for (int i = 0; i < words.length; i++) {
            numbers[i] = Integer.valueOf(words[i]);
        }
        try {
            return String.valueOf(method.invoke(x, numbers));
        } catch (InvocationTargetException e) {
            return "throws " + e.getCause().getClass().getSimpleName();
        } catch (IllegalAccessException e) {
            return "not public";
        }
    }

    private static Method method(String name) {
        for (Method method : PatternColumns.class.getMethods()) {
            if (method.getName().equals(name)) {
                return method;
            }
        }
        return null;
    }

    /** README.md names every test of the project, and none that is not there. */
    private static void tests(String readme) throws IOException {
        Set<String> named = new HashSet<>();
        Matcher name = TEST_NAME.matcher(readme);
        while (name.find()) {
            named.add(name.group(1));
        }
        Set<String> there = new HashSet<>();
        for (Path file : Copy.filesOf(Path.of("src/test/java"))) {
            String simple = file.getFileName().toString().replace(".java", "");
            C.isTrue("README.md names " + simple, readme.contains("`" + simple + "`"));
            if (simple.endsWith("Test")) {
                there.add(simple);
            }
        }
        C.isTrue("README.md names the tests that are there: " + named, named.equals(there));
    }

    /** The commands are run in a copy without this test, which would run them again, and without the slow RunTest. */
    private static void commands(List<String> lines) throws IOException, InterruptedException {
        C.isTrue("README.md has .ci/run", lines.contains(".ci/run"));
        Copy copy = Copy.withoutTests();
        copy.takeShared();
        for (Path file : Copy.filesOf(Path.of("src/test/java"))) {
            if (!file.endsWith("ReadmeTest.java") && !file.endsWith("RunTest.java")) {
                copy.take(file.toString());
            }
        }
        int code = copy.run(String.join("\n", lines), copy.output());
        C.due("the commands of README.md", 0, code);
        if (code != 0) {
            System.out.println(Files.readString(copy.output().toPath()));
        }
        copy.remove();
    }

    private ReadmeTest() {
    }
}
