import java.io.IOException;
import java.lang.reflect.Method;
import java.lang.reflect.Modifier;
import java.nio.file.Files;
import java.nio.file.Path;
import java.util.ArrayList;
import java.util.List;
import java.util.TreeSet;
import java.util.regex.Matcher;
import java.util.regex.Pattern;

/** The document as it stands in ../shared/DOC.md: its face, its constants, and its examples on a new object each. */
public final class DocumentTest {
    private static final Path DOCUMENT = Path.of("../shared/DOC.md");

    public static void main(String[] args) throws IOException, ReflectiveOperationException {
        String page = Files.readString(DOCUMENT);
        String face = Project.blocks(page, "java").get(0);
        constants(face);
        constants(page.substring(page.indexOf("The constants:")));
        methods(face);
        promises(page);
        examples(page);
        Due.finish();
    }

    /** Both in the face ("= -2000000001;") and in the list ("= -2000000001`:"). */
    private static void constants(String text) throws ReflectiveOperationException {
        Matcher matcher = Pattern.compile("\\b([A-Z_]+) = (-\\d+)[;`]").matcher(text);
        int found = 0;
        while (matcher.find()) {
            found++;
            Due.is(matcher.group(1), RepeatLearner.class.getField(matcher.group(1)).getInt(null),
                Long.parseLong(matcher.group(2)));
        }
        Due.is("constants", found, 4);
    }

    private static List<String> allOf(String pattern, String text) {
        List<String> found = new ArrayList<>();
        Matcher matcher = Pattern.compile(pattern).matcher(text);
        while (matcher.find()) {
            found.add(matcher.group(1));
        }
        return found;
    }

    private static void methods(String face) {
        List<String> wanted = allOf("public ((?:int|long) \\w+\\(.*\\));", face);
        TreeSet<String> got = new TreeSet<>();
        for (Method method : RepeatLearner.class.getDeclaredMethods()) {
            if (Modifier.isPublic(method.getModifiers())) {
                got.add(signature(method));
            }
        }
        Due.is("public methods", got.size(), wanted.size());
        for (String method : wanted) {
            Due.is("there is " + method, got.contains(withoutNames(method)) ? 1 : 0, 1);
        }
    }

    private static String signature(Method method) {
        List<String> types = new ArrayList<>();
        for (Class<?> type : method.getParameterTypes()) {
            types.add(type.getName());
        }
        return method.getReturnType() + " " + method.getName() + "(" + String.join(", ", types) + ")";
    }

    private static String withoutNames(String declaration) {
        return declaration.replaceAll("(int|boolean) \\w+([,)])", "$1$2");
    }

    /** The promises are one for each method of the face, and one for the constructor. */
    private static void promises(String page) {
        List<String> numbers = allOf("## Promise (\\d+): ", page);
        Due.is("promises", numbers.size(), 31);
        List<String> promised = allOf("\n`((?:int|long) \\w+\\(.*\\))`\n", page);
        List<String> declared = allOf("public ((?:int|long) \\w+\\(.*\\));", Project.blocks(page, "java").get(0));
        Due.is("promised methods", promised.size(), 30);
        Due.is("they are those of the face, in its order", promised.equals(declared) ? 1 : 0, 1);
    }

    private static void examples(String page) throws ReflectiveOperationException {
        int[] callsInEach = {16, 16, 16};
        List<String> lines = allOf("(?m)^\\d\\. ([A-Z][a-z ]+: reset\\(.*)$", page);
        Due.is("examples", lines.size(), callsInEach.length);
        for (int i = 0; i < lines.size(); i++) {
            RepeatLearner x = new RepeatLearner();
            int calls = 0;
            Matcher matcher = Pattern.compile("(\\w+)\\(([^)]*)\\) = (-?\\d+)[;.]").matcher(lines.get(i));
            while (matcher.find()) {
                calls++;
                Due.is("example " + (i + 1) + ": " + matcher.group(), answer(x, matcher.group(1), matcher.group(2)),
                    Long.parseLong(matcher.group(3)));
            }
            Due.is("calls of example " + (i + 1), calls, callsInEach[i]);
            Due.is("every call was found", lines.get(i).split("; ").length, calls);
        }
    }

    private static long answer(RepeatLearner x, String name, String arguments) throws ReflectiveOperationException {
        String[] words = arguments.isEmpty() ? new String[0] : arguments.split(", ");
        for (Method method : RepeatLearner.class.getMethods()) {
            if (method.getName().equals(name) && method.getParameterCount() == words.length) {
                Object[] values = new Object[words.length];
                for (int i = 0; i < words.length; i++) {
                    boolean isFlag = method.getParameterTypes()[i] == boolean.class;
                    values[i] = isFlag ? (Object) Boolean.valueOf(words[i]) : (Object) Integer.valueOf(words[i]);
                }
                return ((Number) method.invoke(x, values)).longValue();
            }
        }
        throw new NoSuchMethodException(name);
    }
}
