import java.util.function.Supplier;
import java.util.function.ToLongFunction;

/** Shows that a call that reports an error changes nothing: of two objects alike only one gets the call. */
final class Twins {
    private Twins() {
    }

    static void refused(String call, Supplier<RepeatLearner> maker, long want, ToLongFunction<RepeatLearner> made) {
        RepeatLearner called = maker.get();
        RepeatLearner twin = maker.get();
        Due.is(call, made.applyAsLong(called), want);
        sameAnswers(call + ", then at once: ", called, twin);
        goOn(called);
        goOn(twin);
        sameAnswers(call + ", then after more trials: ", called, twin);
    }

    /** Brings to light what no question answers, as the seed and the plant. */
    private static void goOn(RepeatLearner x) {
        while (x.position() >= 0) {
            x.record(14 + x.position());
        }
        x.simulate(3);
        x.setSmoothing(0, 0);
        x.simulate(2);
    }

    private static void sameAnswers(String behind, RepeatLearner a, RepeatLearner b) {
        for (int i = 0; i <= 10; i++) {
            Due.is(behind + "setting(" + i + ")", a.setting(i), b.setting(i));
        }
        for (int k = 0; k < b.setting(0); k++) {
            Due.is(behind + "input(" + k + ")", a.input(k), b.input(k));
            Due.is(behind + "reference(" + k + ")", a.reference(k), b.reference(k));
            Due.is(behind + "bestInput(" + k + ")", a.bestInput(k), b.bestInput(k));
            Due.is(behind + "state(" + k + ")", a.state(k), b.state(k));
            for (int age = 0; age < 5; age++) {
                Due.is(behind + "error(" + k + ", " + age + ")", a.error(k, age), b.error(k, age));
            }
        }
        for (int i = 0; i < 5; i++) {
            Due.is(behind + "count(" + i + ")", a.count(i), b.count(i));
            Due.is(behind + "norm(" + i + ")", a.norm(i), b.norm(i));
            Due.is(behind + "shift(" + i + ")", a.shift(i), b.shift(i));
            Due.is(behind + "energy(" + i + ")", a.energy(i), b.energy(i));
            Due.is(behind + "worstSample(" + i + ")", a.worstSample(i), b.worstSample(i));
        }
        Due.is(behind + "best(0)", a.best(0), b.best(0));
        Due.is(behind + "best(1)", a.best(1), b.best(1));
        Due.is(behind + "convergedCount()", a.convergedCount(), b.convergedCount());
        Due.is(behind + "position()", a.position(), b.position());
        Due.is(behind + "suits()", a.suits(), b.suits());
    }
}
