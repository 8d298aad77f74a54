import java.io.IOException;
import java.lang.reflect.Method;
import java.lang.reflect.Modifier;
import java.nio.file.Files;
import java.nio.file.Path;
import java.util.List;
import java.util.TreeSet;
import java.util.regex.Matcher;
import java.util.regex.Pattern;

/** What README.md says: its example compiles and prints what is told there, and its tables name all there is. */
public final class ReadmeTest {
    public static void main(String[] args) throws IOException, InterruptedException {
        exampleAnswersAsTold();
        everyMethodIsInTheTable();
        everyTestIsInTheTable();
        everyTestIsRun();
        Due.finish();
    }

    private static void exampleAnswersAsTold() throws IOException, InterruptedException {
        List<String> programs = Project.readmeBlocks("java");
        List<String> prints = Project.readmeBlocks("text");
        Due.is("programs in README.md", programs.size(), 1);
        Due.is("outputs in README.md", prints.size(), 1);
        Path directory = Files.createTempDirectory("demo");
        Project.copy(Project.MAIN, directory.resolve("RepeatLearner.java"));
        Project.write(directory.resolve("Demo.java"), programs.get(0));
        String printed = "";
        for (String line : Project.readmeBlocks("sh").get(0).strip().split("\n")) {
            Project.Ended ended = Project.run(directory, line);
            Due.is(line, ended.code(), 0);
            printed += ended.output();
        }
        if (!printed.equals(prints.get(0))) {
            System.out.println("Demo printed:\n" + printed);
        }
        Due.is("Demo prints what README.md tells", printed.equals(prints.get(0)) ? 1 : 0, 1);
        Project.delete(directory);
    }

    /** The words in `..` in the rows of the table with this first row, in its left or its right column. */
    private static TreeSet<String> namesInTable(String firstRow, int column) throws IOException {
        String page = Files.readString(Path.of("README.md"));
        String table = page.substring(page.indexOf(firstRow)).split("\n\n")[0];
        TreeSet<String> names = new TreeSet<>();
        for (String row : table.split("\n")) {
            Matcher matcher = Pattern.compile("`(\\w+)`").matcher(row.split("\\|")[column]);
            while (matcher.find()) {
                Due.is("only once in the table: " + matcher.group(1), names.add(matcher.group(1)) ? 1 : 0, 1);
            }
        }
        return names;
    }

    private static void same(String what, TreeSet<String> got, TreeSet<String> wanted) {
        if (!got.equals(wanted)) {
            System.out.println(what + ": " + got + ", due are " + wanted);
        }
        Due.is(what, got.equals(wanted) ? 1 : 0, 1);
    }

    private static void everyMethodIsInTheTable() throws IOException {
        TreeSet<String> methods = new TreeSet<>();
        for (Method method : RepeatLearner.class.getDeclaredMethods()) {
            if (Modifier.isPublic(method.getModifiers())) {
                methods.add(method.getName());
            }
        }
        same("methods in README.md", namesInTable("| for | methods |", 2), methods);
    }

    private static void everyTestIsInTheTable() throws IOException {
        TreeSet<String> tests = new TreeSet<>();
        for (Path file : Project.testFiles()) {
            String name = file.getFileName().toString().replace(".java", "");
            if (name.endsWith("Test")) {
                tests.add(name);
            }
        }
        same("tests in README.md", namesInTable("| test | what", 1), tests);
    }

    /** .ci/run takes for a test what is named like one: then all that can be started must be named so. */
    private static void everyTestIsRun() throws IOException {
        for (Path file : Project.testFiles()) {
            boolean canBeStarted = Files.readString(file).contains("\n    public static void main(String[] args)");
            boolean isRun = file.toString().endsWith("Test.java");
            Due.is(file + " is run", isRun ? 1 : 0, canBeStarted ? 1 : 0);
        }
        Due.is(".ci/run can be executed", Files.isExecutable(Project.CI) ? 1 : 0, 1);
        Due.is("the way to run the tests", Project.readmeBlocks("sh").get(1).equals("bash .ci/run\n") ? 1 : 0, 1);
        Due.is("commands in README.md", Project.readmeBlocks("sh").size(), 2);
    }
}
