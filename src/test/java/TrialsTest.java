/** Promises 11 to 17: trials, aborted trials, inputs and references. */
public final class TrialsTest {
    private static final int BAD = RepeatLearner.BAD_VALUE;
    private static final int NONE = RepeatLearner.NONE;
    private static final int RUNNING = RepeatLearner.RUNNING;
    private static final int NOT_RUNNING = RepeatLearner.NOT_RUNNING;

    public static void main(String[] args) {
        promise11StartTrial();
        promise12Record();
        promise12InputsStayDuringATrial();
        promise12SettingsApplyFromThenOn();
        promise13Abort();
        promise13AbortOfNothing();
        promise13AbortWithLead();
        promise13AbortCorrectsAllInputs();
        promise13AbortCountsForNothingElse();
        promise14Position();
        promise15And16Input();
        promise17Reference();
        Due.finish();
    }

    private static void promise11StartTrial() {
        RepeatLearner x = Due.withSamples(4);
        Due.is("11: startTrial()", x.startTrial(), 0);
        Due.is("11: startTrial() again", x.startTrial(), RUNNING);
        Due.is("11: abort()", x.abort(), 0);
        Due.is("11: startTrial() after an abort", x.startTrial(), 1);
        x.record(0);
        x.record(0);
        x.record(0);
        Due.is("11: startTrial() before the last sample", x.startTrial(), RUNNING);
        Due.is("11: position() after a refusal", x.position(), 3);
        Due.is("11: record(0)", x.record(0), NONE);
        Due.is("11: startTrial() after a complete one", x.startTrial(), 2);
        x.abort();
        x.simulate(3);
        Due.is("11: startTrial() after simulated ones", x.startTrial(), 6);
        x.reset(4);
        Due.is("11: startTrial() after reset", x.startTrial(), 0);
    }

    private static void promise12Record() {
        RepeatLearner x = Due.withSamples(4);
        Due.is("12: record(0) outside a trial", x.record(0), NOT_RUNNING);
        Due.is("12: record(1000001) outside a trial", x.record(1000001), NOT_RUNNING);
        for (int k = 0; k < 4; k++) {
            x.setInput(k, 10 * k + 1);
        }
        x.startTrial();
        Due.is("12: record(1000001)", x.record(1000001), BAD);
        Due.is("12: record(-1000001)", x.record(-1000001), BAD);
        Due.is("12: position()", x.position(), 0);
        Due.is("12: record(1000000)", x.record(1000000), 11);
        Due.is("12: record(-1000000)", x.record(-1000000), 21);
        Due.is("12: record(7)", x.record(7), 31);
        Due.is("12: norm(0) before the last sample", x.norm(0), NONE);
        Due.is("12: record(8)", x.record(8), NONE);
        Due.is("12: record(8) after the last sample", x.record(8), NOT_RUNNING);
        Due.errors("12", x, 0, -1000000, 1000000, -7, -8);
        Due.inputs("12: corrected", x, 1 - 500000, 11 + 500000, 21 - 4, 31 - 4);
    }

    private static void promise12InputsStayDuringATrial() {
        RepeatLearner x = Due.withSamples(4);
        x.setReference(3, 100);
        x.startTrial();
        x.record(50);
        x.record(50);
        x.record(50);
        Due.inputs("12: during the trial", x, 0, 0, 0, 0);
        x.record(50);
        Due.inputs("12: after the trial", x, -25, -25, -25, 25);
    }

    private static void promise12SettingsApplyFromThenOn() {
        RepeatLearner x = Due.withSamples(4);
        x.setReference(1, 10000);
        x.startTrial();
        x.record(0);
        x.setGain(1000, 1);
        x.record(0);
        x.setSmoothing(100, 1);
        x.record(0);
        x.setLimits(5000, 4);
        x.record(0);
        Due.inputs("12: settings changed during the trial", x, 5000, 1000, 0, 0);
    }

    private static void promise13Abort() {
        RepeatLearner x = Due.withSamples(8);
        Due.is("13: abort() outside a trial", x.abort(), NOT_RUNNING);
        for (int k = 0; k < 8; k++) {
            x.setReference(k, 1000 * (k + 1));
        }
        Due.trial(x, 0, 0, 0, 0, 0, 1);
        Due.is("13: abort()", x.abort(), 6);
        Due.inputs("13: weights fade", x, 500, 1000, 1500, 1500, 1250, 749, 0, 0);
        Due.is("13: abort() again", x.abort(), NOT_RUNNING);
        Due.is("13: count(2)", x.count(2), 1);
        Due.trial(x, 0, 4004, 3000, 4000, 5000, 6000, 7000);
        Due.is("13: abort() before the last sample", x.abort(), 7);
        Due.inputs("13: divisions round down", x, 1000, 1000 - 1002, 1500, 1500, 1250, 749, 0, 0);
    }

    private static void promise13AbortOfNothing() {
        RepeatLearner x = Due.withSamples(4);
        x.setInput(0, 900);
        x.setSmoothing(300, 4);
        x.setLimits(100, 4);
        x.startTrial();
        Due.is("13: abort() of nothing", x.abort(), 0);
        Due.inputs("13: nothing else happens", x, 900, 0, 0, 0);
        Due.is("13: count(2)", x.count(2), 1);
        Due.is("13: position()", x.position(), NOT_RUNNING);
    }

    private static void promise13AbortWithLead() {
        RepeatLearner x = Due.withSamples(8);
        x.setGain(1000, 2);
        x.setLimits(1000000, 2);
        for (int k = 0; k < 8; k++) {
            x.setReference(k, 100 * k);
        }
        Due.trial(x, 0, 0, 0, 0, 0);
        Due.is("13: abort()", x.abort(), 5);
        Due.inputs("13: only known errors", x, 200, 300, 200, 0, 0, 0, 0, 0);
        Due.trial(x, 0, 100, 100, 300);
        Due.is("13: abort()", x.abort(), 4);
        Due.inputs("13: only known errors of the latest trial", x, 300, 300, 200, 0, 0, 0, 0, 0);
    }

    private static void promise13AbortCorrectsAllInputs() {
        RepeatLearner x = Due.withSamples(5);
        x.setGain(1000, 8);
        x.setReference(0, 100);
        x.setInput(4, 1000);
        x.setSmoothing(250, 1);
        x.setLimits(700, 4);
        Due.trial(x, 0);
        Due.is("13: abort()", x.abort(), 1);
        Due.inputs("13: smoothed and limited", x, 0, 0, 0, 250, 700);
    }

    private static void promise13AbortCountsForNothingElse() {
        RepeatLearner x = Due.withSamples(6);
        x.setGain(0, 0);
        x.setGreatestShift(2);
        x.setTolerance(50, 1);
        Due.trial(x, 0, 0, 100, 0, 0, 0);
        x.setReference(0, 9);
        Due.trial(x, 0, 90, 0, 0, 0);
        Due.is("13: abort()", x.abort(), 5);
        Due.is("13: count(1)", x.count(1), 1);
        Due.is("13: count(4)", x.count(4), 0);
        Due.is("13: norm(0)", x.norm(0), 100);
        Due.is("13: norm(1)", x.norm(1), NONE);
        Due.is("13: best(0)", x.best(0), 100);
        Due.is("13: best(1)", x.best(1), 0);
        Due.is("13: state(2)", x.state(2), 3);
        Due.is("13: convergedCount()", x.convergedCount(), 5);
        Due.trial(x, 0, 0, 0, 100, 0, 0);
        Due.is("13: shift(0)", x.shift(0), 1);
        Due.is("13: count(4) is 1 now", x.count(4), 1);
        Due.trial(x, 0, 0);
        x.abort();
        Due.is("13: count(4) stays", x.count(4), 1);
        Due.is("13: count(2)", x.count(2), 2);
        RepeatLearner y = Due.withSamples(6);
        y.setGreatestShift(2);
        y.setGain(1000, 0);
        y.setLimits(1000000, 1);
        Due.trial(y, 0, 0, 100, 0, 0, 0);
        Due.trial(y, 0, 0, 0, 100, 0);
        y.abort();
        Due.inputs("13: without alignment", y, 0, 0, -100, -100, 0, 0);
    }

    private static void promise14Position() {
        RepeatLearner x = Due.withSamples(4);
        Due.is("14: position() at first", x.position(), NOT_RUNNING);
        x.startTrial();
        for (int k = 0; k < 4; k++) {
            Due.is("14: position()", x.position(), k);
            x.record(k);
        }
        Due.is("14: position() at the end", x.position(), NOT_RUNNING);
        x.startTrial();
        Due.is("14: position() anew", x.position(), 0);
        x.record(1);
        x.abort();
        Due.is("14: position() after an abort", x.position(), NOT_RUNNING);
        x.simulate(1);
        Due.is("14: position() after simulate", x.position(), NOT_RUNNING);
    }

    private static void promise15And16Input() {
        RepeatLearner x = Due.withSamples(4);
        x.setLimits(10, 4);
        Due.is("16: setInput(0, 1000000)", x.setInput(0, 1000000), 0);
        Due.is("16: setInput(0, -1000000)", x.setInput(0, -1000000), 1000000);
        Due.is("16: setInput(3, 5)", x.setInput(3, 5), 0);
        Due.is("16: setInput(3, 1000001)", x.setInput(3, 1000001), BAD);
        Due.is("16: setInput(3, -1000001)", x.setInput(3, -1000001), BAD);
        Due.is("16: setInput(4, 0)", x.setInput(4, 0), BAD);
        Due.is("16: setInput(-1, 0)", x.setInput(-1, 0), BAD);
        Due.inputs("15", x, -1000000, 0, 0, 5);
        for (int bad : new int[] {-1, 4, Integer.MIN_VALUE, Integer.MAX_VALUE}) {
            Due.is("15: input(" + bad + ")", x.input(bad), BAD);
        }
        x.startTrial();
        Due.is("16: setInput(3, 6) in a trial", x.setInput(3, 6), RUNNING);
        Due.is("16: setInput(4, 6) in a trial", x.setInput(4, 6), RUNNING);
        Due.is("16: setInput(3, 1000001) in a trial", x.setInput(3, 1000001), RUNNING);
        Due.inputs("15: in a trial", x, -1000000, 0, 0, 5);
        x.abort();
        Due.is("16: setInput(3, 6) after the trial", x.setInput(3, 6), 5);
        Due.is("15: input(3)", x.input(3), 6);
    }

    private static void promise17Reference() {
        RepeatLearner x = Due.withSamples(4);
        for (int k = 0; k < 4; k++) {
            x.setReference(k, k - 2);
        }
        x.simulate(1);
        for (int k = 0; k < 4; k++) {
            Due.is("17: reference(" + k + ")", x.reference(k), k - 2);
        }
        for (int bad : new int[] {-1, 4, Integer.MIN_VALUE, Integer.MAX_VALUE}) {
            Due.is("17: reference(" + bad + ")", x.reference(bad), BAD);
        }
    }
}
