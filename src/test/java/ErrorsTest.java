import java.util.function.ToLongFunction;

/**
 * Each error, and that a call that reports one changes nothing: two objects are brought to the same state,
 * and only one of them gets the call.
 */
public final class ErrorsTest {
    private static final int BAD = RepeatLearner.BAD_VALUE;
    private static final int NONE = RepeatLearner.NONE;
    private static final int RUNNING = RepeatLearner.RUNNING;
    private static final int NOT_RUNNING = RepeatLearner.NOT_RUNNING;
    private static final int LOW = Integer.MIN_VALUE;
    private static final int HIGH = Integer.MAX_VALUE;

    private enum Stage { NEW, BETWEEN_TRIALS, IN_A_TRIAL }

    public static void main(String[] args) {
        for (Stage stage : Stage.values()) {
            wrongSettings(stage);
            wrongPlants(stage);
            wrongQuestions(stage);
        }
        notInATrial();
        inATrial();
        nothingThere();
        Due.finish();
    }

    private static RepeatLearner broughtTo(Stage stage) {
        RepeatLearner x = new RepeatLearner();
        x.reset(4);
        if (stage == Stage.NEW) {
            return x;
        }
        x.setReference(0, 300);
        x.setReference(3, -77);
        x.setGain(900, 1);
        x.setSmoothing(100, 2);
        x.setLimits(5000, 3);
        x.setGreatestShift(1);
        x.setTolerance(20, 2);
        x.setGuard(true);
        x.setPlant(0, 700);
        x.setPlant(1, 300);
        x.setDisturbance(30, 11);
        x.simulate(4);
        x.setInput(2, 6000);
        if (stage == Stage.IN_A_TRIAL) {
            x.startTrial();
            x.record(12);
            x.record(13);
        }
        return x;
    }

    private static void wrongSettings(Stage stage) {
        for (int bad : new int[] {3, 49, -1, LOW, HIGH}) {
            due(stage, "reset(" + bad + ")", BAD, x -> x.reset(bad));
        }
        due(stage, "setReference(-1, 1)", BAD, x -> x.setReference(-1, 1));
        due(stage, "setReference(4, 1)", BAD, x -> x.setReference(4, 1));
        for (int bad : new int[] {1000001, -1000001, LOW, HIGH}) {
            due(stage, "setReference(0, " + bad + ")", BAD, x -> x.setReference(0, bad));
        }
        for (int bad : new int[] {-1, LOW, HIGH}) {
            due(stage, "setGain(" + bad + ", 3)", BAD, x -> x.setGain(bad, 3));
            due(stage, "setGain(3, " + bad + ")", BAD, x -> x.setGain(3, bad));
            due(stage, "setSmoothing(" + bad + ", 3)", BAD, x -> x.setSmoothing(bad, 3));
            due(stage, "setSmoothing(3, " + bad + ")", BAD, x -> x.setSmoothing(3, bad));
            due(stage, "setLimits(" + bad + ", 2)", BAD, x -> x.setLimits(bad, 2));
            due(stage, "setLimits(2, " + bad + ")", BAD, x -> x.setLimits(2, bad));
            due(stage, "setGreatestShift(" + bad + ")", BAD, x -> x.setGreatestShift(bad));
            due(stage, "setTolerance(" + bad + ", 3)", BAD, x -> x.setTolerance(bad, 3));
            due(stage, "setTolerance(3, " + bad + ")", BAD, x -> x.setTolerance(3, bad));
        }
        due(stage, "setGain(2001, 3)", BAD, x -> x.setGain(2001, 3));
        due(stage, "setGain(3, 9)", BAD, x -> x.setGain(3, 9));
        due(stage, "setSmoothing(334, 0)", BAD, x -> x.setSmoothing(334, 0));
        due(stage, "setSmoothing(3, 5)", BAD, x -> x.setSmoothing(3, 5));
        due(stage, "setLimits(0, 2)", BAD, x -> x.setLimits(0, 2));
        due(stage, "setLimits(1000001, 2)", BAD, x -> x.setLimits(1000001, 2));
        due(stage, "setLimits(2, 0)", BAD, x -> x.setLimits(2, 0));
        due(stage, "setLimits(2, 11)", BAD, x -> x.setLimits(2, 11));
        due(stage, "setGreatestShift(6)", BAD, x -> x.setGreatestShift(6));
        due(stage, "setTolerance(1000001, 3)", BAD, x -> x.setTolerance(1000001, 3));
        due(stage, "setTolerance(3, 0)", BAD, x -> x.setTolerance(3, 0));
        due(stage, "setTolerance(3, 6)", BAD, x -> x.setTolerance(3, 6));
    }

    private static void wrongPlants(Stage stage) {
        for (int bad : new int[] {-1, 6, LOW, HIGH}) {
            due(stage, "setPlant(" + bad + ", 5)", BAD, x -> x.setPlant(bad, 5));
        }
        for (int bad : new int[] {3001, -3001, LOW, HIGH}) {
            due(stage, "setPlant(0, " + bad + ")", BAD, x -> x.setPlant(0, bad));
        }
        for (int bad : new int[] {-1, 1001, LOW, HIGH}) {
            due(stage, "setDisturbance(" + bad + ", 5)", BAD, x -> x.setDisturbance(bad, 5));
        }
        for (int bad : new int[] {0, 21, -1, LOW, HIGH}) {
            due(stage, "simulate(" + bad + ")", BAD, x -> x.simulate(bad));
        }
    }

    private static void wrongQuestions(Stage stage) {
        for (int bad : new int[] {-1, 48, LOW, HIGH}) {
            due(stage, "setting(" + bad + ")", BAD, x -> x.setting(bad));
            due(stage, "input(" + bad + ")", BAD, x -> x.input(bad));
            due(stage, "reference(" + bad + ")", BAD, x -> x.reference(bad));
            due(stage, "count(" + bad + ")", BAD, x -> x.count(bad));
            due(stage, "error(" + bad + ", 0)", BAD, x -> x.error(bad, 0));
            due(stage, "error(0, " + bad + ")", BAD, x -> x.error(0, bad));
            due(stage, "norm(" + bad + ")", BAD, x -> x.norm(bad));
            due(stage, "shift(" + bad + ")", BAD, x -> x.shift(bad));
            due(stage, "worstSample(" + bad + ")", BAD, x -> x.worstSample(bad));
            due(stage, "energy(" + bad + ")", -1, x -> x.energy(bad));
            due(stage, "best(" + bad + ")", BAD, x -> x.best(bad));
            due(stage, "bestInput(" + bad + ")", BAD, x -> x.bestInput(bad));
            due(stage, "state(" + bad + ")", BAD, x -> x.state(bad));
        }
    }

    private static void notInATrial() {
        for (Stage stage : new Stage[] {Stage.NEW, Stage.BETWEEN_TRIALS}) {
            due(stage, "record(1)", NOT_RUNNING, x -> x.record(1));
            due(stage, "record(1000001)", NOT_RUNNING, x -> x.record(1000001));
            due(stage, "abort()", NOT_RUNNING, x -> x.abort());
            due(stage, "position()", NOT_RUNNING, x -> x.position());
            due(stage, "setInput(4, 1)", BAD, x -> x.setInput(4, 1));
            due(stage, "setInput(-1, 1)", BAD, x -> x.setInput(-1, 1));
            due(stage, "setInput(0, 1000001)", BAD, x -> x.setInput(0, 1000001));
            due(stage, "setInput(0, -1000001)", BAD, x -> x.setInput(0, -1000001));
        }
    }

    private static void inATrial() {
        Stage stage = Stage.IN_A_TRIAL;
        for (int bad : new int[] {1000001, -1000001, LOW, HIGH}) {
            due(stage, "record(" + bad + ")", BAD, x -> x.record(bad));
            due(stage, "setInput(0, " + bad + ")", RUNNING, x -> x.setInput(0, bad));
            due(stage, "setInput(" + bad + ", 0)", RUNNING, x -> x.setInput(bad, 0));
        }
        due(stage, "setInput(0, 0)", RUNNING, x -> x.setInput(0, 0));
        due(stage, "startTrial()", RUNNING, x -> x.startTrial());
        due(stage, "simulate(1)", RUNNING, x -> x.simulate(1));
        due(stage, "simulate(20)", RUNNING, x -> x.simulate(20));
    }

    private static void nothingThere() {
        Stage stage = Stage.NEW;
        due(stage, "error(3, 4)", NONE, x -> x.error(3, 4));
        due(stage, "norm(4)", NONE, x -> x.norm(4));
        due(stage, "shift(4)", NONE, x -> x.shift(4));
        due(stage, "worstSample(4)", NONE, x -> x.worstSample(4));
        due(stage, "energy(4)", -2, x -> x.energy(4));
        due(stage, "best(1)", NONE, x -> x.best(1));
        due(stage, "bestInput(3)", NONE, x -> x.bestInput(3));
    }

    private static void due(Stage stage, String call, long want, ToLongFunction<RepeatLearner> made) {
        Twins.refused(stage + ": " + call, () -> broughtTo(stage), want, made);
    }
}
