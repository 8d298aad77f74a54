import java.lang.reflect.Constructor;
import java.lang.reflect.Field;
import java.lang.reflect.Method;
import java.lang.reflect.Modifier;
import java.util.ArrayList;
import java.util.Arrays;
import java.util.List;
import java.util.TreeSet;

/** The face of the class is that of the document and nothing more, and the constants are as there. */
public final class FaceTest {
    private static final String[] FACE = {
        "final int BAD_VALUE", "final int RUNNING", "final int NOT_RUNNING", "final int NONE",
        "RepeatLearner()", "int reset(int)", "int setReference(int,int)", "int setGain(int,int)",
        "int setSmoothing(int,int)", "int setLimits(int,int)", "int setGreatestShift(int)",
        "int setTolerance(int,int)", "int setGuard(boolean)", "int setting(int)", "int startTrial()",
        "int record(int)", "int abort()", "int position()", "int input(int)", "int setInput(int,int)",
        "int reference(int)", "int count(int)", "int error(int,int)", "int norm(int)", "int shift(int)",
        "int worstSample(int)", "long energy(int)", "int best(int)", "int bestInput(int)", "int state(int)",
        "int convergedCount()", "int setPlant(int,int)", "int setDisturbance(int,int)", "int simulate(int)",
        "int suits()",
    };

    public static void main(String[] args) {
        Due.is("BAD_VALUE", RepeatLearner.BAD_VALUE, -2000000001);
        Due.is("RUNNING", RepeatLearner.RUNNING, -2000000002);
        Due.is("NOT_RUNNING", RepeatLearner.NOT_RUNNING, -2000000003);
        Due.is("NONE", RepeatLearner.NONE, -2000000004);
        Due.is("modifiers of the class", RepeatLearner.class.getModifiers(), Modifier.PUBLIC | Modifier.FINAL);
        TreeSet<String> wanted = new TreeSet<>(Arrays.asList(FACE));
        TreeSet<String> found = new TreeSet<>(visibleMembers());
        for (String member : wanted) {
            Due.is("there is " + member, found.contains(member) ? 1 : 0, 1);
        }
        for (String member : found) {
            Due.is("the document tells of " + member, wanted.contains(member) ? 1 : 0, 1);
        }
        Due.finish();
    }

    private static List<String> visibleMembers() {
        List<String> found = new ArrayList<>();
        for (Field field : RepeatLearner.class.getDeclaredFields()) {
            if (!Modifier.isPrivate(field.getModifiers())) {
                found.add((Modifier.isFinal(field.getModifiers()) ? "final " : "") + field.getType() + " " + field.getName());
            }
        }
        for (Constructor<?> made : RepeatLearner.class.getDeclaredConstructors()) {
            if (!Modifier.isPrivate(made.getModifiers())) {
                found.add("RepeatLearner" + types(made.getParameterTypes()));
            }
        }
        for (Method method : RepeatLearner.class.getDeclaredMethods()) {
            if (!Modifier.isPrivate(method.getModifiers())) {
                found.add(method.getReturnType() + " " + method.getName() + types(method.getParameterTypes()));
            }
        }
        return found;
    }

    private static String types(Class<?>[] parameters) {
        List<String> names = new ArrayList<>();
        for (Class<?> parameter : parameters) {
            names.add(parameter.getName());
        }
        return "(" + String.join(",", names) + ")";
    }
}
