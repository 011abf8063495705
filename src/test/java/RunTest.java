import java.io.IOException;
import java.nio.file.Files;

/** The script .ci/run runs the tests of the project and those beside it, and fails if one fails. */
public final class RunTest {
    private static final Check C = new Check();

    public static void main(String[] args) throws IOException, InterruptedException {
        String good = test("GoodTest", 0);
        String bad = test("BadTest", 1);
        String broken = "public final class BrokenTest {";
        runs("all tests pass", true, "GoodTest", good, "SharedRuns", test("SharedRuns", 0));
        runs("a test of the project fails", false, "BadTest", bad, "SharedRuns", test("SharedRuns", 0));
        runs("a shared test fails", false, "GoodTest", good, "SharedRuns", test("SharedRuns", 1));
        runs("a test of the project does not compile", false, "BrokenTest", broken,
                "SharedRuns", test("SharedRuns", 0));
        runs("a shared test does not compile", false, "GoodTest", good, "BrokenTest", broken);
        runs("there is no shared test", false, "GoodTest", good, null, null);
        C.end("RunTest");
    }

    /** A test that uses the class and ends with an exit code. */
    private static String test(String name, int code) {
        return "public final class " + name + " {\n    public static void main(String[] args) {\n"
                + "        new PatternColumns().column();\n        System.out.println(\"main of " + name + "\");\n"
                + "        System.exit(" + code + ");\n    }\n}\n";
    }

    private static void runs(String name, boolean passes, String own, String ownText, String shared,
            String sharedText) throws IOException, InterruptedException {
        Copy copy = Copy.withoutTests();
        copy.write(copy.tests(), own + ".java", ownText);
        if (shared != null) {
            copy.write(copy.shared, shared + ".java", sharedText);
        }
        int code = copy.run(".ci/run", copy.output());
        C.isTrue(".ci/run ends with " + code + " when " + name, passes == (code == 0));
        if (passes) {
            String output = Files.readString(copy.output().toPath());
            C.isTrue(".ci/run runs " + own, output.contains("main of " + own));
            C.isTrue(".ci/run runs " + shared, output.contains("main of " + shared));
        }
        copy.remove();
    }

    private RunTest() {
    }
}
