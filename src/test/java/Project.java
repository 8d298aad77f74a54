import java.io.File;
import java.io.IOException;
import java.nio.file.Files;
import java.nio.file.Path;
import java.util.ArrayList;
import java.util.Comparator;
import java.util.List;
import java.util.regex.Matcher;
import java.util.regex.Pattern;
import java.util.stream.Stream;

/** The files of the project, as tests read them; .ci/run starts every test in the project's directory. */
final class Project {
    static final Path MAIN = Path.of("src/main/java/RepeatLearner.java");
    static final Path TESTS = Path.of("src/test/java");
    static final Path CI = Path.of(".ci/run");

    record Ended(int code, String output) {
    }

    private Project() {
    }

    /** The blocks of README.md between ``` lines that bear this label. */
    static List<String> readmeBlocks(String label) throws IOException {
        return blocks(Files.readString(Path.of("README.md")), label);
    }

    static List<String> blocks(String page, String label) {
        List<String> found = new ArrayList<>();
        Matcher matcher = Pattern.compile("(?ms)^```" + label + "\\n(.*?)^```$").matcher(page);
        while (matcher.find()) {
            found.add(matcher.group(1));
        }
        return found;
    }

    static List<Path> testFiles() throws IOException {
        try (Stream<Path> files = Files.walk(TESTS)) {
            return files.filter(file -> file.toString().endsWith(".java")).sorted().toList();
        }
    }

    /** Carries out one command line, whose words are parted by single blanks. */
    static Ended run(Path directory, String line) throws IOException, InterruptedException {
        File output = File.createTempFile("output", ".txt");
        Process process = new ProcessBuilder(line.split(" ")).directory(directory.toFile())
            .redirectErrorStream(true).redirectOutput(output).start();
        int code = process.waitFor();
        String text = Files.readString(output.toPath());
        Files.delete(output.toPath());
        return new Ended(code, text);
    }

    static void write(Path file, String text) throws IOException {
        Files.createDirectories(file.getParent());
        Files.writeString(file, text);
    }

    static void copy(Path file, Path to) throws IOException {
        Files.createDirectories(to.getParent());
        Files.copy(file, to);
    }

    static void delete(Path directory) throws IOException {
        try (Stream<Path> files = Files.walk(directory)) {
            for (Path file : files.sorted(Comparator.reverseOrder()).toList()) {
                Files.delete(file);
            }
        }
    }
}
