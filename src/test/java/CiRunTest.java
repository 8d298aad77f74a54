import java.io.IOException;
import java.nio.file.Files;
import java.nio.file.Path;

/** The README's way to run the tests, in a small project of its own: it runs them all, and fails if one fails. */
public final class CiRunTest {
    private static final String CLASS = "public final class RepeatLearner { public int reset() { return 16; } }\n";

    public static void main(String[] args) throws IOException, InterruptedException {
        allTestsAreRun();
        failsIf("a test of the project fails", "main/src/test/java/FirstTest.java", test("FirstTest", 15));
        failsIf("a test of the project in a directory fails", "main/src/test/java/more/ThirdTest.java",
            test("ThirdTest", 15));
        failsIf("a test throws", "main/src/test/java/SecondTest.java",
            test("SecondTest", 16).replace("System.exit", "Integer.parseInt(\"\"); System.exit"));
        failsIf("a test under ../shared/tests fails", "shared/tests/Runs.java", test("Runs", 15));
        failsIf("a test in a directory under ../shared/tests fails", "shared/tests/more/Runs.java", test("Runs", 15));
        failsIf("a test of the project does not compile", "main/src/test/java/FirstTest.java", "class FirstTest {");
        failsIf("a test under ../shared/tests does not compile", "shared/tests/Runs.java", "class Runs {");
        failsIf("the class does not compile", "main/src/main/java/RepeatLearner.java", "class RepeatLearner {");
        failsIf("the class answers another value", "main/src/main/java/RepeatLearner.java", CLASS.replace("16", "17"));
        failsWithoutTests("main/src/test/java");
        failsWithoutTests("shared/tests");
        Due.finish();
    }

    /** A test that ends with code 1 if the class does not answer this. */
    private static String test(String name, int wanted) {
        return "public final class " + name + " {\n"
            + "    public static void main(String[] args) {\n"
            + "        System.out.println(\"this is " + name + "\");\n"
            + "        System.exit(new RepeatLearner().reset() == " + wanted + " ? 0 : 1);\n"
            + "    }\n"
            + "}\n";
    }

    private static Path smallProject() throws IOException {
        Path root = Files.createTempDirectory("small");
        Project.copy(Project.CI, root.resolve("main").resolve(Project.CI));
        Project.write(root.resolve("main/src/main/java/RepeatLearner.java"), CLASS);
        Project.write(root.resolve("main/src/test/java/FirstTest.java"), test("FirstTest", 16));
        Project.write(root.resolve("main/src/test/java/SecondTest.java"), test("SecondTest", 16));
        Project.write(root.resolve("shared/tests/Runs.java"), test("Runs", 16));
        return root;
    }

    private static Project.Ended runTests(Path root) throws IOException, InterruptedException {
        return Project.run(root.resolve("main"), Project.readmeBlocks("sh").get(1).strip());
    }

    private static void has(Project.Ended ended, String text) {
        Due.is("it tells: " + text, ended.output().contains(text) ? 1 : 0, 1);
    }

    private static void allTestsAreRun() throws IOException, InterruptedException {
        Path root = smallProject();
        Project.write(root.resolve("main/src/test/java/more/ThirdTest.java"), test("ThirdTest", 16));
        Project.write(root.resolve("shared/tests/more/Runs.java"), test("Runs", 16));
        Project.write(root.resolve("shared/tests/RunsAgain.java"), test("RunsAgain", 16));
        Project.Ended ended = runTests(root);
        Due.is("all tests hold", ended.code(), 0);
        for (String name : new String[] {"FirstTest", "SecondTest", "ThirdTest", "Runs", "RunsAgain"}) {
            has(ended, "this is " + name + "\nok: " + name + "\n");
        }
        has(ended, "6 passed, 0 failed");
        Project.delete(root);
    }

    private static void failsIf(String what, String file, String text) throws IOException, InterruptedException {
        Path root = smallProject();
        Project.write(root.resolve(file), text);
        Project.Ended ended = runTests(root);
        Due.is(what, ended.code(), 1);
        has(ended, "FAILED: ");
        Project.delete(root);
    }

    private static void failsWithoutTests(String directory) throws IOException, InterruptedException {
        Path root = smallProject();
        Project.delete(root.resolve(directory));
        Due.is("no tests in " + directory, runTests(root).code(), 1);
        Project.delete(root);
    }
}
