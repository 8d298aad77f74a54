import java.io.IOException;
import java.lang.reflect.Field;
import java.lang.reflect.Method;
import java.lang.reflect.Modifier;
import java.nio.file.Files;
import java.util.Arrays;
import java.util.List;
import java.util.TreeSet;
import java.util.regex.Matcher;
import java.util.regex.Pattern;

/** Those rules of ../shared/LANGUAGE.md that can be read off the file or the class. */
public final class LanguageTest {
    /** What the class needs of the library of rule 4. */
    private static final String[] LIBRARY = {
        "Arrays.fill", "Math.abs", "Math.floorDiv", "Math.floorMod", "Math.max", "Math.min", "System.arraycopy",
    };
    private static final String[] FORBIDDEN = {
        "throw", "throws", "try", "catch", "finally", "synchronized", "assert", "package", "protected", "volatile",
        "native", "hashCode", "equals", "toString", "Object", "Exception", "Thread", "Random", "->", "::",
    };

    public static void main(String[] args) throws IOException {
        String source = withoutComments(Files.readString(Project.MAIN));
        rule1TheFace();
        rule2NestedClasses();
        rule5StaticFields(RepeatLearner.class);
        rule6ForbiddenWords(source);
        rule4TheLibrary(source);
        rule11Sizes(source);
        rule12ObjectsOnlyInConstructors(source);
        Due.finish();
    }

    private static String withoutComments(String source) {
        return source.replaceAll("(?s)/\\*.*?\\*/", "").replaceAll("//[^\n]*", "");
    }

    private static boolean isNamed(String source, String word) {
        boolean isWord = Character.isLetter(word.charAt(0));
        String pattern = Pattern.quote(word);
        return Pattern.compile(isWord ? "\\b" + pattern + "\\b" : pattern).matcher(source).find();
    }

    private static void rule1TheFace() {
        TreeSet<String> open = new TreeSet<>();
        for (Method method : RepeatLearner.class.getDeclaredMethods()) {
            if (Modifier.isPublic(method.getModifiers())) {
                open.add(method.getName());
            }
        }
        for (Class<?> each : RepeatLearner.class.getDeclaredClasses()) {
            for (Method method : each.getDeclaredMethods()) {
                Due.is("rule 1: a public name: " + method, open.contains(method.getName()) ? 1 : 0, 0);
            }
        }
        for (Method method : RepeatLearner.class.getDeclaredMethods()) {
            boolean isClosed = !Modifier.isPublic(method.getModifiers());
            Due.is("rule 1: a public name: " + method, isClosed && open.contains(method.getName()) ? 1 : 0, 0);
        }
    }

    private static void rule2NestedClasses() {
        Class<?>[] nested = RepeatLearner.class.getDeclaredClasses();
        Due.is("rule 11: some twelve classes", nested.length <= 11 ? 1 : 0, 1);
        for (Class<?> each : nested) {
            Due.is("rule 2: static: " + each, Modifier.isStatic(each.getModifiers()) ? 1 : 0, 1);
            Due.is("rule 1: public: " + each, Modifier.isPublic(each.getModifiers()) ? 1 : 0, 0);
            Due.is("rule 2: no class inside: " + each, each.getDeclaredClasses().length, 0);
            rule5StaticFields(each);
        }
    }

    private static void rule5StaticFields(Class<?> each) {
        int ownFields = 0;
        for (Field field : each.getDeclaredFields()) {
            int modifiers = field.getModifiers();
            if (Modifier.isStatic(modifiers)) {
                Due.is("rule 5: final: " + field, Modifier.isFinal(modifiers) ? 1 : 0, 1);
                Due.is("rule 5: a number: " + field, field.getType().isPrimitive() ? 1 : 0, 1);
            } else {
                ownFields++;
            }
        }
        Due.is("rule 11: some twenty fields: " + each, ownFields <= 20 ? 1 : 0, 1);
    }

    /** Of equals only that of two Strings is allowed, and the class has no String. */
    private static void rule6ForbiddenWords(String source) {
        for (String word : FORBIDDEN) {
            Due.is("rules 1 to 6: " + word, isNamed(source, word) ? 1 : 0, 0);
        }
    }

    private static void rule4TheLibrary(String source) {
        List<String> allowed = Arrays.asList(LIBRARY);
        Matcher matcher = Pattern.compile("\\b([A-Z][a-z]\\w*\\.[a-z]\\w*)\\b").matcher(source);
        while (matcher.find()) {
            Due.is("rule 4: " + matcher.group(1), allowed.contains(matcher.group(1)) ? 1 : 0, 1);
        }
        Matcher imported = Pattern.compile("(?m)^import (.*);$").matcher(source);
        while (imported.find()) {
            Due.is("rule 4: " + imported.group(1), imported.group(1).equals("java.util.Arrays") ? 1 : 0, 1);
        }
    }

    private static void rule11Sizes(String source) {
        Matcher matcher = Pattern.compile("(?ms)^( {4,8})[^ \n][^;\n]*\\([^;\n]*\\) \\{$(.*?)^\\1\\}$").matcher(source);
        int methods = 0;
        while (matcher.find()) {
            methods++;
            int lines = matcher.group(2).split("\n").length;
            Due.is("rule 11: a short method: " + matcher.group().split("\n")[0], lines <= 60 ? 1 : 0, 1);
        }
        Due.is("methods were found", methods > 50 ? 1 : 0, 1);
        for (Method method : RepeatLearner.class.getDeclaredMethods()) {
            Due.is("rule 11: parameters of " + method, method.getParameterCount() <= 7 ? 1 : 0, 1);
        }
    }

    /** All that is made is made in the constructor or where a field is told, which are lines with an end of ";". */
    private static void rule12ObjectsOnlyInConstructors(String source) {
        Matcher matcher = Pattern.compile("(?m)^(.*)\\bnew\\b.*;$").matcher(source);
        while (matcher.find()) {
            String before = matcher.group(1);
            boolean isField = before.matches(" {8}final int(\\[\\])+ \\w+ = ");
            boolean inConstructor = before.matches(" {8}\\w+ = ");
            Due.is("rule 12: made in the constructor: " + matcher.group(), isField || inConstructor ? 1 : 0, 1);
        }
    }
}
