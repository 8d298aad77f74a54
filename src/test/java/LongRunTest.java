import com.sun.management.ThreadMXBean;
import java.lang.management.ManagementFactory;

/** An object is used for 512 calls: up to the last of them it answers as before, and no call makes an object. */
public final class LongRunTest {
    private static final int CALLS = 512;
    private static final ThreadMXBean THREADS = (ThreadMXBean) ManagementFactory.getThreadMXBean();

    public static void main(String[] args) {
        theLongestRun();
        theMostRecords();
        theMostAborts();
        theMostResets();
        theMostFallbacks();
        theMostBadTrials();
        noCallMakesAnObject();
        Due.finish();
    }

    /** 509 calls of 20 trials each: 10180 trials, in the first 20 of which the error is halved down to 1. */
    private static void theLongestRun() {
        RepeatLearner x = Due.withSamples(48);
        x.setReference(47, 1000000);
        for (int i = 3; i < CALLS; i++) {
            Due.is("simulate(20)", x.simulate(20), i == 3 ? 2 : 1);
        }
        Due.is("the 512th call: count(0)", x.count(0), 20 * (CALLS - 3));
    }

    /** Trials of 48 samples by hand: the 512th call is the 20th record of the 11th trial. */
    private static void theMostRecords() {
        RepeatLearner x = Due.withSamples(48);
        int call = 1;
        for (int trial = 0; call < CALLS; trial++) {
            Due.is("call " + ++call + ": startTrial()", x.startTrial(), trial);
            for (int k = 0; k < 48 && call < CALLS; k++) {
                Due.is("call " + ++call + ": record(0)", x.record(0), k == 47 ? RepeatLearner.NONE : 0);
            }
        }
    }

    private static void theMostAborts() {
        RepeatLearner x = Due.withSamples(4);
        x.setReference(0, 1000);
        for (int i = 0; i < 169; i++) {
            Due.is("startTrial()", x.startTrial(), i);
            Due.is("record(1000)", x.record(1000), 0);
            Due.is("abort()", x.abort(), 1);
        }
        Due.is("the 510th call: count(2)", x.count(2), 169);
        Due.is("the 511th call: count(0)", x.count(0), 169);
        Due.is("the 512th call: best(0)", x.best(0), RepeatLearner.NONE);
    }

    private static void theMostResets() {
        RepeatLearner x = new RepeatLearner();
        int previous = 16;
        for (int i = 0; i < CALLS; i++) {
            int samples = 4 + i % 45;
            Due.is("reset(" + samples + ")", x.reset(samples), previous);
            previous = samples;
        }
    }

    private static void theMostFallbacks() {
        RepeatLearner x = Due.withSamples(4);
        x.setGuard(true);
        x.setGain(0, 0);
        x.simulate(1);
        x.setInput(0, 1);
        x.setPlant(0, 0);
        x.setReference(0, 7);
        for (int i = 8; i < CALLS; i++) {
            Due.is("simulate(20)", x.simulate(20), 7);
        }
        Due.is("the 512th call: count(3)", x.count(3), 10 * (CALLS - 8));
    }

    private static void theMostBadTrials() {
        RepeatLearner x = Due.withSamples(4);
        x.setGain(0, 0);
        x.simulate(1);
        x.setReference(0, 7);
        for (int i = 5; i < CALLS; i++) {
            Due.is("simulate(20)", x.simulate(20), 7);
        }
        Due.is("the 512th call: count(4)", x.count(4), 20 * (CALLS - 5));
    }

    /** The first run loads what the machine itself makes when a method is called for the first time. */
    private static void noCallMakesAnObject() {
        long me = Thread.currentThread().getId();
        int answers = everyCall(new RepeatLearner());
        RepeatLearner x = new RepeatLearner();
        long before = THREADS.getThreadAllocatedBytes(me);
        long nothing = THREADS.getThreadAllocatedBytes(me) - before;
        before = THREADS.getThreadAllocatedBytes(me);
        int again = everyCall(x);
        long made = THREADS.getThreadAllocatedBytes(me) - before - nothing;
        Due.is("bytes that the calls have made", made, 0);
        Due.is("the same calls give the same answers", again, answers);
    }

    private static int everyCall(RepeatLearner x) {
        int sum = x.reset(48) + x.setReference(0, 5000) + x.setGain(700, 1) + x.setSmoothing(100, 4);
        sum += x.setLimits(9000, 3) + x.setGreatestShift(5) + x.setTolerance(50, 3) + x.setGuard(true);
        sum += x.setInput(1, 7) + x.setPlant(1, 900) + x.setDisturbance(100, 3) + x.simulate(20) + x.suits();
        sum += x.startTrial() + x.position();
        for (int k = 0; k < 48; k++) {
            sum += x.record(k);
        }
        sum += x.startTrial() + x.record(40) + x.record(1000001) + x.abort() + x.reset(3);
        for (int i = -1; i < 12; i++) {
            sum += x.setting(i) + x.count(i) + x.input(i) + x.reference(i) + x.error(i, i) + x.norm(i) + x.shift(i);
            sum += x.worstSample(i) + (int) x.energy(i) + x.best(i) + x.bestInput(i) + x.state(i);
        }
        return sum + x.convergedCount();
    }
}
