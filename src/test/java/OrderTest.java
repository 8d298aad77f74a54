import java.util.function.ToLongFunction;

/**
 * Each method with several errors: calls to which more than one of them applies, or the one error twice, answer
 * the one that stands first in the document's line. NONE comes last, for it is no error.
 */
public final class OrderTest {
    private static final int BAD = RepeatLearner.BAD_VALUE;
    private static final int NONE = RepeatLearner.NONE;
    private static final int RUNNING = RepeatLearner.RUNNING;
    private static final int NOT_RUNNING = RepeatLearner.NOT_RUNNING;
    private static final int[] BAD_SAMPLES = {-1, 4, Integer.MIN_VALUE, Integer.MAX_VALUE};
    private static final int[] BAD_SIGNALS = {-1000001, 1000001, Integer.MIN_VALUE, Integer.MAX_VALUE};
    private static final int[] BAD_AGES = {-1, 5, Integer.MIN_VALUE, Integer.MAX_VALUE};

    public static void main(String[] args) {
        promise12NotRunningBeforeBadValue();
        promise12BadValueBeforeNone();
        promise16RunningBeforeBadValue();
        promise30BadValueBeforeRunning();
        promise19ErrorBadValueBeforeNone();
        promise20To23BadValueBeforeNone();
        promise24And25BadValueBeforeNone();
        promise26BadValueBeforeNoTrial();
        promise11To14OneErrorAtATime();
        bothArgumentsBad();
        Due.finish();
    }

    private static RepeatLearner atFirst() {
        RepeatLearner x = new RepeatLearner();
        x.reset(4);
        return x;
    }

    private static RepeatLearner afterOneTrial() {
        RepeatLearner x = atFirst();
        x.setReference(1, 40);
        x.simulate(1);
        return x;
    }

    private static RepeatLearner afterAbort() {
        RepeatLearner x = afterOneTrial();
        x.startTrial();
        x.record(9);
        x.abort();
        return x;
    }

    private static RepeatLearner recorded(int samples) {
        RepeatLearner x = afterOneTrial();
        x.startTrial();
        for (int k = 0; k < samples; k++) {
            x.record(k);
        }
        return x;
    }

    private static void promise12NotRunningBeforeBadValue() {
        for (int bad : BAD_SIGNALS) {
            Twins.refused("12: record at first", OrderTest::atFirst, NOT_RUNNING, x -> x.record(bad));
            Twins.refused("12: record after a trial", OrderTest::afterOneTrial, NOT_RUNNING, x -> x.record(bad));
            Twins.refused("12: record after an abort", OrderTest::afterAbort, NOT_RUNNING, x -> x.record(bad));
        }
    }

    /** The trial would be complete with this output, but it is not recorded. */
    private static void promise12BadValueBeforeNone() {
        for (int bad : BAD_SIGNALS) {
            Twins.refused("12: record of the last sample", () -> recorded(3), BAD, x -> x.record(bad));
            RepeatLearner x = recorded(3);
            x.record(bad);
            Due.is("12: the trial is still running", x.position(), 3);
            Due.is("12: record(0) of the last sample", x.record(0), NONE);
        }
    }

    private static void promise16RunningBeforeBadValue() {
        for (int samples = 0; samples < 4; samples++) {
            int recorded = samples;
            for (int bad : BAD_SAMPLES) {
                Twins.refused("16: a wrong sample", () -> recorded(recorded), RUNNING, x -> x.setInput(bad, 0));
            }
            for (int bad : BAD_SIGNALS) {
                Twins.refused("16: a wrong value", () -> recorded(recorded), RUNNING, x -> x.setInput(0, bad));
            }
            Twins.refused("16: both", () -> recorded(recorded), RUNNING, x -> x.setInput(4, 1000001));
        }
    }

    private static void promise30BadValueBeforeRunning() {
        for (int samples = 0; samples < 4; samples++) {
            int recorded = samples;
            for (int bad : new int[] {0, 21, -1, Integer.MIN_VALUE, Integer.MAX_VALUE}) {
                Twins.refused("30: simulate in a trial", () -> recorded(recorded), BAD, x -> x.simulate(bad));
            }
        }
    }

    private static void promise19ErrorBadValueBeforeNone() {
        for (int bad : BAD_SAMPLES) {
            badAfter("19: a wrong sample and no such trial", 0, x -> x.error(bad, 0));
            badAfter("19: a wrong sample and no such trial", 1, x -> x.error(bad, 1));
            badAfter("19: a wrong sample and no such trial", 1, x -> x.error(bad, 4));
        }
        for (int bad : BAD_AGES) {
            badAfter("19: a wrong age and no trial", 0, x -> x.error(0, bad));
            badAfter("19: a wrong age and one trial", 1, x -> x.error(3, bad));
            badAfter("19: a wrong sample and a wrong age", 1, x -> x.error(4, bad));
        }
        Due.is("19: error(3, 0) of no trial", atFirst().error(3, 0), NONE);
        Due.is("19: error(3, 1) of one trial", afterOneTrial().error(3, 1), NONE);
        Due.is("19: error(3, 1) of one trial and an abort", afterAbort().error(3, 1), NONE);
    }

    private static void badAfter(String call, int complete, ToLongFunction<RepeatLearner> made) {
        Twins.refused(call, complete == 0 ? OrderTest::atFirst : OrderTest::afterOneTrial, BAD, made);
    }

    private static void promise20To23BadValueBeforeNone() {
        for (int bad : BAD_AGES) {
            for (int complete = 0; complete <= 1; complete++) {
                badAfter("20: norm", complete, x -> x.norm(bad));
                badAfter("21: shift", complete, x -> x.shift(bad));
                badAfter("22: worstSample", complete, x -> x.worstSample(bad));
            }
            Twins.refused("23: energy of no trial", OrderTest::atFirst, -1, x -> x.energy(bad));
            Twins.refused("23: energy", OrderTest::afterOneTrial, -1, x -> x.energy(bad));
        }
        for (int age = 0; age < 5; age++) {
            Due.is("20: norm of no trial", atFirst().norm(age), NONE);
            Due.is("21: shift of no trial", atFirst().shift(age), NONE);
            Due.is("22: worstSample of no trial", atFirst().worstSample(age), NONE);
            Due.is("23: energy of no trial", atFirst().energy(age), -2);
            Due.is("20: norm of one trial", afterAbort().norm(age), age == 0 ? 40 : NONE);
            Due.is("21: shift of one trial", afterAbort().shift(age), age == 0 ? 0 : NONE);
            Due.is("22: worstSample of one trial", afterAbort().worstSample(age), age == 0 ? 1 : NONE);
            Due.is("23: energy of one trial", afterAbort().energy(age), age == 0 ? 1600 : -2);
        }
    }

    private static void promise24And25BadValueBeforeNone() {
        for (int bad : new int[] {-1, 2, Integer.MIN_VALUE, Integer.MAX_VALUE}) {
            badAfter("24: best of no trial", 0, x -> x.best(bad));
        }
        for (int bad : BAD_SAMPLES) {
            badAfter("25: bestInput of no trial", 0, x -> x.bestInput(bad));
        }
        for (int what = 0; what < 2; what++) {
            Due.is("24: best of no trial", atFirst().best(what), NONE);
        }
        for (int k = 0; k < 4; k++) {
            Due.is("25: bestInput of no trial", atFirst().bestInput(k), NONE);
        }
    }

    private static void promise26BadValueBeforeNoTrial() {
        for (int bad : BAD_SAMPLES) {
            badAfter("26: state of no trial", 0, x -> x.state(bad));
            badAfter("26: state of one trial", 1, x -> x.state(bad));
        }
    }

    private static void promise11To14OneErrorAtATime() {
        for (int samples = 0; samples < 4; samples++) {
            int recorded = samples;
            Twins.refused("11: startTrial in a trial", () -> recorded(recorded), RUNNING, x -> x.startTrial());
        }
        Twins.refused("13: abort at first", OrderTest::atFirst, NOT_RUNNING, x -> x.abort());
        Twins.refused("13: abort after a trial", OrderTest::afterOneTrial, NOT_RUNNING, x -> x.abort());
        Twins.refused("13: abort after an abort", OrderTest::afterAbort, NOT_RUNNING, x -> x.abort());
        Twins.refused("14: position at first", OrderTest::atFirst, NOT_RUNNING, x -> x.position());
        Twins.refused("14: position after a trial", OrderTest::afterOneTrial, NOT_RUNNING, x -> x.position());
        Twins.refused("14: position after an abort", OrderTest::afterAbort, NOT_RUNNING, x -> x.position());
    }

    private static void bothArgumentsBad() {
        Twins.refused("3: setReference", OrderTest::afterOneTrial, BAD, x -> x.setReference(4, 1000001));
        Twins.refused("4: setGain", OrderTest::afterOneTrial, BAD, x -> x.setGain(2001, 9));
        Twins.refused("5: setSmoothing", OrderTest::afterOneTrial, BAD, x -> x.setSmoothing(334, 5));
        Twins.refused("6: setLimits", OrderTest::afterOneTrial, BAD, x -> x.setLimits(0, 0));
        Twins.refused("8: setTolerance", OrderTest::afterOneTrial, BAD, x -> x.setTolerance(-1, 0));
        Twins.refused("16: setInput", OrderTest::afterOneTrial, BAD, x -> x.setInput(-1, -1000001));
        Twins.refused("28: setPlant", OrderTest::afterOneTrial, BAD, x -> x.setPlant(6, 3001));
    }
}
