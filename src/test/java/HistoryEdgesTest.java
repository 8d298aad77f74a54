/** The edges of signals and settings at first, of the history of 5 trials, and of convergence. */
public final class HistoryEdgesTest {
    private static final int NONE = RepeatLearner.NONE;
    private static final int RUNNING = RepeatLearner.RUNNING;

    public static void main(String[] args) {
        signalsAreZeroAtFirst();
        inputsStayDuringATrial();
        agesUpToTheNumberOfTrials();
        moreThanFiveTrials();
        historyStaysWithReferences();
        worstSampleAtBothEnds();
        energyBeyondInt();
        fewerTrialsThanHold();
        errorsNextToTheTolerance();
        onlyTheLatestOfHoldCount();
        oldErrorsAreForgotten();
        toleranceAppliesAtOnce();
        grownErrors();
        convergedComesBeforeGrown();
        abortedTrialsDoNotConverge();
        resetDropsARunningTrial();
        Due.finish();
    }

    private static void signalsAreZeroAtFirst() {
        for (int samples : new int[] {4, 16, 48}) {
            RepeatLearner x = new RepeatLearner();
            if (samples != 16) {
                x.reset(samples);
            }
            for (int k : new int[] {0, 1, samples - 2, samples - 1}) {
                Due.is("reference(" + k + ")", x.reference(k), 0);
                Due.is("input(" + k + ")", x.input(k), 0);
            }
            Due.is("simulate(1)", x.simulate(1), 0);
        }
    }

    private static void inputsStayDuringATrial() {
        RepeatLearner x = Due.withSamples(4);
        x.setInput(0, 1);
        x.setInput(3, 4);
        x.startTrial();
        for (int k = 0; k < 4; k++) {
            Due.inputs("before sample " + k, x, 1, 0, 0, 4);
            Due.is("setInput before sample " + k, x.setInput(k, 99), RUNNING);
            Due.is("record of sample " + k, x.record(1000), k == 3 ? NONE : k == 2 ? 4 : 0);
        }
        Due.inputs("after the last sample", x, -499, -500, -500, -496);
    }

    private static void agesUpToTheNumberOfTrials() {
        RepeatLearner x = Due.withSamples(4);
        for (int complete = 0; complete <= 8; complete++) {
            for (int age = 0; age < 5; age++) {
                int norm = 10 * (complete - age);
                String what = complete + " trials, age " + age;
                boolean there = age < complete;
                Due.is(what + ": norm", x.norm(age), there ? norm : NONE);
                Due.is(what + ": error", x.error(3, age), there ? -norm : NONE);
                Due.is(what + ": shift", x.shift(age), there ? 0 : NONE);
                Due.is(what + ": worstSample", x.worstSample(age), there ? 3 : NONE);
                Due.is(what + ": energy", x.energy(age), there ? (long) norm * norm : -2);
            }
            Due.is("count(1)", x.count(1), complete);
            Due.trial(x, 0, 0, 0, 10 * (complete + 1));
        }
    }

    private static void moreThanFiveTrials() {
        RepeatLearner x = Due.withSamples(11);
        x.setGreatestShift(5);
        int[] shifts = {0, 1, -1, 2, -2, 3, -3, 4};
        for (int t = 0; t < shifts.length; t++) {
            int[] outputs = new int[11];
            outputs[5 + shifts[t]] = 100 + t;
            Due.trial(x, outputs);
        }
        for (int age = 0; age < 5; age++) {
            int t = shifts.length - 1 - age;
            Due.is("shift(" + age + ")", x.shift(age), shifts[t]);
            Due.is("norm(" + age + ")", x.norm(age), 100 + t);
            Due.is("error(5, " + age + ")", x.error(5, age), -100 - t);
            Due.is("worstSample(" + age + ")", x.worstSample(age), 5);
        }
        Due.is("the best trial is older than the history: best(0)", x.best(0), 100);
        Due.is("the best trial is older than the history: best(1)", x.best(1), 0);
        Due.is("count(1)", x.count(1), 8);
        Due.is("count(4)", x.count(4), 7);
    }

    private static void historyStaysWithReferences() {
        RepeatLearner x = Due.withSamples(4);
        Due.trial(x, 1, 2, 3, 4);
        x.setReference(0, 1000);
        x.setInput(1, 1000);
        x.setGreatestShift(5);
        Due.errors("of the references then", x, 0, -1, -2, -3, -4);
        Due.is("norm(0)", x.norm(0), 10);
        Due.is("worstSample(0)", x.worstSample(0), 3);
        Due.is("energy(0)", x.energy(0), 30);
        Due.is("state(0)", x.state(0), 3);
    }

    private static void worstSampleAtBothEnds() {
        RepeatLearner x = Due.withSamples(48);
        x.startTrial();
        for (int k = 0; k < 48; k++) {
            x.record(k == 0 || k == 47 ? 5 : -4);
        }
        Due.is("the first one of two", x.worstSample(0), 0);
        x.startTrial();
        for (int k = 0; k < 48; k++) {
            x.record(k == 0 ? 5 : k == 47 ? -6 : 4);
        }
        Due.is("the last one", x.worstSample(0), 47);
        x.startTrial();
        for (int k = 0; k < 48; k++) {
            x.record(k == 30 ? 7 : k == 31 ? -7 : 0);
        }
        Due.is("the lowest one of several", x.worstSample(0), 30);
        RepeatLearner y = Due.withSamples(4);
        y.simulate(1);
        Due.is("no error at all", y.worstSample(0), 0);
        Due.is("no error at all: energy(0)", y.energy(0), 0);
    }

    private static void energyBeyondInt() {
        RepeatLearner x = Due.withSamples(4);
        Due.trial(x, 46341, 0, 0, 0);
        Due.is("one square beyond int", x.energy(0), 2147488281L);
        Due.trial(x, 32768, -32768, 0, 0);
        Due.is("a sum beyond int", x.energy(0), 2147483648L);
        for (int k = 0; k < 4; k++) {
            x.setReference(k, -1000000);
        }
        Due.trial(x, 1000000, 1000000, 1000000, 1000000);
        Due.is("the greatest squares", x.energy(0), 16000000000000L);
    }

    private static void fewerTrialsThanHold() {
        for (int hold = 1; hold <= 5; hold++) {
            RepeatLearner x = Due.withSamples(4);
            x.setTolerance(0, hold);
            Due.is("hold " + hold + ", no trial: convergedCount()", x.convergedCount(), 0);
            Due.is("hold " + hold + ", no trial: state(0)", x.state(0), 0);
            for (int complete = 1; complete <= 7; complete++) {
                x.simulate(1);
                String what = "hold " + hold + ", " + complete + " trials: ";
                Due.is(what + "state(0)", x.state(0), complete >= hold ? 1 : 3);
                Due.is(what + "state(3)", x.state(3), complete >= hold ? 1 : 3);
                Due.is(what + "convergedCount()", x.convergedCount(), complete >= hold ? 4 : 0);
            }
        }
    }

    private static void errorsNextToTheTolerance() {
        for (int tolerance : new int[] {0, 1, 10, 999999}) {
            RepeatLearner x = Due.withSamples(4);
            x.setTolerance(tolerance, 1);
            Due.trial(x, tolerance, -tolerance, tolerance + 1, -tolerance - 1);
            Due.is("an error of the tolerance", x.state(0), 1);
            Due.is("a negative error of the tolerance", x.state(1), 1);
            Due.is("a greater error", x.state(2), 3);
            Due.is("a greater negative error", x.state(3), 3);
            Due.is("convergedCount()", x.convergedCount(), 2);
        }
        RepeatLearner y = Due.withSamples(4);
        y.setTolerance(1000000, 1);
        y.setReference(0, 1000000);
        y.setReference(1, 1000000);
        Due.trial(y, 0, -1, 1000000, -1000000);
        Due.is("tolerance 1000000: state(0)", y.state(0), 1);
        Due.is("tolerance 1000000: state(1)", y.state(1), 3);
        Due.is("tolerance 1000000: convergedCount()", y.convergedCount(), 3);
    }

    /** One bad error, ever older: it counts while it is among the latest ones, as many as the hold tells. */
    private static void onlyTheLatestOfHoldCount() {
        for (int hold = 1; hold <= 5; hold++) {
            RepeatLearner x = Due.withSamples(4);
            x.setTolerance(10, hold);
            x.simulate(5);
            Due.trial(x, 0, 0, 0, 11);
            for (int age = 0; age <= 6; age++) {
                String what = "hold " + hold + ", an error " + age + " trials ago: ";
                int wanted = age >= hold ? 1 : age == 0 ? 2 : 3;
                Due.is(what + "state(3)", x.state(3), wanted);
                Due.is(what + "state(2)", x.state(2), 1);
                Due.is(what + "convergedCount()", x.convergedCount(), age >= hold ? 4 : 3);
                Due.trial(x, 0, 0, 0, 0);
            }
        }
    }

    private static void oldErrorsAreForgotten() {
        RepeatLearner x = Due.withSamples(4);
        x.setTolerance(0, 5);
        Due.trial(x, 1, 1, 1, 1);
        for (int t = 0; t < 4; t++) {
            Due.trial(x, 0, 0, 0, 0);
            Due.is("the oldest one of 5 counts", x.convergedCount(), 0);
        }
        Due.trial(x, 0, 0, 0, 0);
        Due.is("the sixth one does not", x.convergedCount(), 4);
    }

    private static void toleranceAppliesAtOnce() {
        RepeatLearner x = Due.withSamples(4);
        Due.trial(x, 30, 0, 0, 0);
        Due.trial(x, 20, 0, 0, 0);
        Due.is("tolerance 10, hold 2", x.state(0), 3);
        x.setTolerance(20, 2);
        Due.is("tolerance 20, hold 2", x.state(0), 3);
        x.setTolerance(20, 1);
        Due.is("tolerance 20, hold 1", x.state(0), 1);
        x.setTolerance(30, 2);
        Due.is("tolerance 30, hold 2", x.state(0), 1);
        x.setTolerance(30, 3);
        Due.is("tolerance 30, hold 3", x.state(0), 3);
        Due.is("tolerance 30, hold 3: convergedCount()", x.convergedCount(), 0);
    }

    private static void grownErrors() {
        RepeatLearner x = Due.withSamples(6);
        x.setTolerance(0, 5);
        Due.trial(x, 10, -10, 10, 10, 0, 0);
        for (int k = 0; k < 6; k++) {
            Due.is("one trial: state(" + k + ")", x.state(k), 3);
        }
        Due.trial(x, 11, -11, -10, 9, -1, 0);
        int[] wanted = {2, 2, 3, 3, 2, 3};
        for (int k = 0; k < 6; k++) {
            Due.is("two trials: state(" + k + ")", x.state(k), wanted[k]);
        }
        Due.trial(x, -12, 10, 11, -10, 1, 0);
        int[] then = {2, 3, 2, 2, 3, 3};
        for (int k = 0; k < 6; k++) {
            Due.is("three trials: state(" + k + ")", x.state(k), then[k]);
        }
    }

    private static void convergedComesBeforeGrown() {
        RepeatLearner x = Due.withSamples(4);
        Due.trial(x, 0, 0, 0, 0);
        Due.trial(x, 10, -10, 11, -11);
        Due.is("grown up to the tolerance", x.state(0), 1);
        Due.is("grown down to the tolerance", x.state(1), 1);
        Due.is("grown beyond the tolerance", x.state(2), 2);
        Due.is("grown beyond the tolerance below", x.state(3), 2);
    }

    private static void abortedTrialsDoNotConverge() {
        RepeatLearner x = Due.withSamples(4);
        Due.trial(x, 0, 0, 0);
        x.abort();
        Due.is("no complete trial: state(0)", x.state(0), 0);
        Due.is("no complete trial: best(0)", x.best(0), NONE);
        Due.is("no complete trial: norm(0)", x.norm(0), NONE);
        Due.trial(x, 0, 0, 0, 0);
        Due.trial(x, 500, 0, 0);
        x.abort();
        Due.is("one complete trial: state(0)", x.state(0), 3);
        Due.is("one complete trial: convergedCount()", x.convergedCount(), 0);
        Due.trial(x, 0, 0, 0, 0);
        Due.is("two complete trials: state(0)", x.state(0), 1);
    }

    private static void resetDropsARunningTrial() {
        for (int recorded = 0; recorded < 4; recorded++) {
            RepeatLearner x = Due.withSamples(4);
            Due.trial(x, new int[recorded]);
            Due.is("reset(4) in a trial", x.reset(4), 4);
            Due.is("position()", x.position(), RepeatLearner.NOT_RUNNING);
            Due.is("a dropped trial is not aborted", x.count(2), 0);
            Due.is("startTrial()", x.startTrial(), 0);
            Due.is("position() anew", x.position(), 0);
        }
        RepeatLearner y = Due.withSamples(4);
        Due.trial(y, 1, 2);
        Due.is("reset(3) in a trial", y.reset(3), RepeatLearner.BAD_VALUE);
        Due.is("the trial goes on", y.position(), 2);
        Due.is("reset(49) in a trial", y.reset(49), RepeatLearner.BAD_VALUE);
        Due.is("the trial goes on", y.abort(), 2);
    }
}
