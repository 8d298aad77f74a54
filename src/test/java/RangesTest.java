/**
 * The range of each argument: the least and the greatest value with the answer of each, and the next ones below
 * and above (and the ends of int) with the error of each, which changes nothing. Every range is looked at before
 * the first trial, after five trials, and in a trial; the settings and references are the same in all three.
 */
public final class RangesTest {
    private static final int BAD = RepeatLearner.BAD_VALUE;
    private static final int NONE = RepeatLearner.NONE;
    private static final int RUNNING = RepeatLearner.RUNNING;
    private static final int NOT_RUNNING = RepeatLearner.NOT_RUNNING;
    private static final int LOW = Integer.MIN_VALUE;
    private static final int HIGH = Integer.MAX_VALUE;

    private static final int NO_TRIAL = 0;
    private static final int FIVE_TRIALS = 1;
    private static final int IN_A_TRIAL = 2;
    private static final int[] STAGES = {NO_TRIAL, FIVE_TRIALS, IN_A_TRIAL};
    private static final int[] BETWEEN_TRIALS = {NO_TRIAL, FIVE_TRIALS};
    private static final int[] WITH_TRIALS = {FIVE_TRIALS, IN_A_TRIAL};
    private static final int[] ONLY_NO_TRIAL = {NO_TRIAL};
    private static final int[] ONLY_IN_A_TRIAL = {IN_A_TRIAL};
    private static final String[] STAGE_NAMES = {"no trial", "five trials", "in a trial"};

    private interface Asked {
        long of(RepeatLearner x, int value);
    }

    public static void main(String[] args) {
        reset();
        resetMakesRoom();
        references();
        gains();
        smoothing();
        limits();
        shiftsAndTolerances();
        settingNumbers();
        outputs();
        inputs();
        samples();
        counts();
        ages();
        best();
        plants();
        disturbances();
        simulatedTrials();
        samplesOfOtherLengths();
        Due.finish();
    }

    /** Five trials with these errors, the oldest first; the last one is a bad one, and the one before it the best. */
    private static RepeatLearner broughtTo(int stage) {
        RepeatLearner x = new RepeatLearner();
        x.reset(4);
        x.setReference(0, 300);
        x.setReference(3, -77);
        x.setGain(900, 1);
        x.setSmoothing(100, 2);
        x.setLimits(5000, 3);
        x.setGreatestShift(1);
        x.setTolerance(20, 2);
        x.setGuard(true);
        x.setPlant(0, 700);
        x.setPlant(5, -300);
        x.setDisturbance(30, 11);
        if (stage != NO_TRIAL) {
            Due.trial(x, 0, 50, 0, 0);      // 300, -50, 0, -77
            Due.trial(x, 0, 0, 60, 0);      // 300, -60, 0, -77 with shift 1
            Due.trial(x, 10, 40, 0, 0);     // 290, -40, 0, -77
            x.setInput(0, -41);
            x.setInput(3, 42);
            Due.trial(x, 20, 30, 0, 0);     // 280, -30, 0, -77
            x.setReference(3, -777);
            Due.trial(x, 10, 20, 30, 0);    // 280, -30, 0, -777 with shift 1
            x.setReference(3, -77);
        }
        x.setInput(0, 6000);
        x.setInput(3, -7000);
        if (stage == IN_A_TRIAL) {
            x.startTrial();
            x.record(12);
            x.record(13);
        }
        return x;
    }

    /** Both ends of a range, on an object each. */
    private static void answered(String call, int[] stages, int least, long ofLeast, int greatest, long ofGreatest,
            Asked asked) {
        for (int stage : stages) {
            String where = STAGE_NAMES[stage] + ": " + call + " with ";
            Due.is(where + least, asked.of(broughtTo(stage), least), ofLeast);
            Due.is(where + greatest, asked.of(broughtTo(stage), greatest), ofGreatest);
        }
    }

    /** The next values beyond both ends of a range. */
    private static void refused(String call, int[] stages, int least, int greatest, long error, Asked asked) {
        for (int stage : stages) {
            for (int bad : new int[] {least - 1, greatest + 1, LOW, HIGH}) {
                String where = STAGE_NAMES[stage] + ": " + call + " with " + bad;
                Twins.refused(where, () -> broughtTo(stage), error, x -> asked.of(x, bad));
            }
        }
    }

    private static void range(String call, int least, long ofLeast, int greatest, long ofGreatest, Asked asked) {
        answered(call, STAGES, least, ofLeast, greatest, ofGreatest, asked);
        refused(call, STAGES, least, greatest, BAD, asked);
    }

    /** A setting that answers whether there is a change: with both ends there is one, and then no more. */
    private static void changing(String call, int number, int least, int greatest, Asked asked) {
        range(call, least, 1, greatest, 1, asked);
        for (int stage : STAGES) {
            for (int value : new int[] {least, greatest}) {
                String where = STAGE_NAMES[stage] + ": " + call + " with " + value;
                RepeatLearner x = broughtTo(stage);
                asked.of(x, value);
                Due.is(where + " is a setting", x.setting(number), value);
                Due.is(where + " again", asked.of(x, value), 0);
                Due.is(where + " stays a setting", x.setting(number), value);
            }
        }
    }

    /** A value that answers the previous one: the second time this is the value itself. */
    private static void keeping(String call, int[] stages, int least, int greatest, Asked asked) {
        for (int stage : stages) {
            for (int value : new int[] {least, greatest}) {
                RepeatLearner x = broughtTo(stage);
                asked.of(x, value);
                Due.is(STAGE_NAMES[stage] + ": " + call + " again with " + value, asked.of(x, value), value);
            }
        }
    }

    private static void reset() {
        range("reset", 4, 4, 48, 4, (x, samples) -> x.reset(samples));
        for (int stage : STAGES) {
            for (int samples : new int[] {4, 5, 47, 48}) {
                String where = STAGE_NAMES[stage] + ": reset(" + samples + ")";
                RepeatLearner x = broughtTo(stage);
                Due.is(where, x.reset(samples), 4);
                Due.is(where + ": setting(0)", x.setting(0), samples);
                Due.is(where + ": setting(1)", x.setting(1), 500);
                Due.is(where + ": position()", x.position(), NOT_RUNNING);
                Due.is(where + ": count(0)", x.count(0), 0);
                Due.is(where + ": reset(16)", x.reset(16), samples);
            }
        }
    }

    /** In the shortest and in the longest trial each sample is recorded and can be asked for. */
    private static void resetMakesRoom() {
        for (int samples : new int[] {4, 48}) {
            RepeatLearner x = new RepeatLearner();
            x.reset(samples);
            x.startTrial();
            for (int k = 0; k < samples; k++) {
                Due.is("record of sample " + k, x.record(-100 - k), k == samples - 1 ? NONE : 0);
            }
            for (int k = 0; k < samples; k++) {
                Due.is("error(" + k + ", 0)", x.error(k, 0), 100 + k);
                Due.is("input(" + k + ")", x.input(k), (100 + k) / 2);
                Due.is("bestInput(" + k + ")", x.bestInput(k), 0);
            }
            Due.is("worstSample(0)", x.worstSample(0), samples - 1);
        }
    }

    private static void references() {
        range("setReference(?, 5)", 0, 300, 3, -77, (x, k) -> x.setReference(k, 5));
        range("setReference(0, ?)", -1000000, 300, 1000000, 300, (x, value) -> x.setReference(0, value));
        range("setReference(3, ?)", -1000000, -77, 1000000, -77, (x, value) -> x.setReference(3, value));
        keeping("setReference(3, ?)", STAGES, -1000000, 1000000, (x, value) -> x.setReference(3, value));
        range("reference", 0, 300, 3, -77, (x, k) -> x.reference(k));
    }

    private static void gains() {
        changing("setGain(?, 3)", 1, 0, 2000, (x, gain) -> x.setGain(gain, 3));
        changing("setGain(900, ?)", 2, 0, 8, (x, lead) -> x.setGain(900, lead));
        range("setGain(1999, ?)", 0, 1, 8, 1, (x, lead) -> x.setGain(1999, lead));
    }

    private static void smoothing() {
        changing("setSmoothing(?, 3)", 3, 0, 333, (x, weight) -> x.setSmoothing(weight, 3));
        changing("setSmoothing(100, ?)", 4, 0, 4, (x, passes) -> x.setSmoothing(100, passes));
        range("setSmoothing(332, ?)", 0, 1, 4, 1, (x, passes) -> x.setSmoothing(332, passes));
    }

    private static void limits() {
        changing("setLimits(?, 7)", 5, 1, 1000000, (x, limit) -> x.setLimits(limit, 7));
        changing("setLimits(5000, ?)", 6, 1, 10, (x, blend) -> x.setLimits(5000, blend));
        range("setLimits(999999, ?)", 1, 1, 10, 1, (x, blend) -> x.setLimits(999999, blend));
    }

    private static void shiftsAndTolerances() {
        range("setGreatestShift", 0, 1, 5, 1, (x, shift) -> x.setGreatestShift(shift));
        keeping("setGreatestShift", STAGES, 0, 5, (x, shift) -> x.setGreatestShift(shift));
        changing("setTolerance(?, 4)", 8, 0, 1000000, (x, tolerance) -> x.setTolerance(tolerance, 4));
        changing("setTolerance(20, ?)", 9, 1, 5, (x, hold) -> x.setTolerance(20, hold));
        range("setTolerance(999999, ?)", 1, 1, 5, 1, (x, hold) -> x.setTolerance(999999, hold));
    }

    private static void settingNumbers() {
        range("setting", 0, 4, 10, 1, (x, what) -> x.setting(what));
        int[] wanted = {4, 900, 1, 100, 2, 5000, 3, 1, 20, 2, 1};
        for (int what = 0; what < wanted.length; what++) {
            Due.is("setting(" + what + ")", broughtTo(FIVE_TRIALS).setting(what), wanted[what]);
        }
    }

    private static void outputs() {
        answered("record", ONLY_IN_A_TRIAL, -1000000, -7000, 1000000, -7000, (x, output) -> x.record(output));
        refused("record", ONLY_IN_A_TRIAL, -1000000, 1000000, BAD, (x, output) -> x.record(output));
        answered("record", BETWEEN_TRIALS, -1000000, NOT_RUNNING, 1000000, NOT_RUNNING, (x, output) -> x.record(output));
        refused("record", BETWEEN_TRIALS, -1000000, 1000000, NOT_RUNNING, (x, output) -> x.record(output));
        for (int output : new int[] {-1000000, 1000000}) {
            RepeatLearner x = Due.withSamples(4);
            Due.trial(x, 0, 0, 0);
            Due.is("record(" + output + ") of the last sample", x.record(output), NONE);
            Due.errors("record(" + output + ") of the last sample", x, 0, 0, 0, 0, -output);
            Due.inputs("record(" + output + ") of the last sample", x, 0, 0, 0, -output / 2);
        }
    }

    private static void inputs() {
        range("input", 0, 6000, 3, -7000, (x, k) -> x.input(k));
        answered("setInput(?, 5)", BETWEEN_TRIALS, 0, 6000, 3, -7000, (x, k) -> x.setInput(k, 5));
        refused("setInput(?, 5)", BETWEEN_TRIALS, 0, 3, BAD, (x, k) -> x.setInput(k, 5));
        answered("setInput(0, ?)", BETWEEN_TRIALS, -1000000, 6000, 1000000, 6000, (x, value) -> x.setInput(0, value));
        refused("setInput(0, ?)", BETWEEN_TRIALS, -1000000, 1000000, BAD, (x, value) -> x.setInput(0, value));
        keeping("setInput(3, ?)", BETWEEN_TRIALS, -1000000, 1000000, (x, value) -> x.setInput(3, value));
        answered("setInput(?, 5)", ONLY_IN_A_TRIAL, 0, RUNNING, 3, RUNNING, (x, k) -> x.setInput(k, 5));
        refused("setInput(?, 5)", ONLY_IN_A_TRIAL, 0, 3, RUNNING, (x, k) -> x.setInput(k, 5));
        refused("setInput(0, ?)", ONLY_IN_A_TRIAL, -1000000, 1000000, RUNNING, (x, value) -> x.setInput(0, value));
    }

    /** Questions about a sample of the history, of the best trial, and of convergence. */
    private static void samples() {
        answered("error(?, 0)", WITH_TRIALS, 0, 280, 3, -777, (x, k) -> x.error(k, 0));
        answered("error(?, 4)", WITH_TRIALS, 0, 300, 3, -77, (x, k) -> x.error(k, 4));
        answered("error(?, 0)", ONLY_NO_TRIAL, 0, NONE, 3, NONE, (x, k) -> x.error(k, 0));
        refused("error(?, 0)", STAGES, 0, 3, BAD, (x, k) -> x.error(k, 0));
        answered("bestInput", WITH_TRIALS, 0, -41, 3, 42, (x, k) -> x.bestInput(k));
        answered("bestInput", ONLY_NO_TRIAL, 0, NONE, 3, NONE, (x, k) -> x.bestInput(k));
        refused("bestInput", STAGES, 0, 3, BAD, (x, k) -> x.bestInput(k));
        answered("state", WITH_TRIALS, 0, 3, 3, 2, (x, k) -> x.state(k));
        answered("state", ONLY_NO_TRIAL, 0, 0, 3, 0, (x, k) -> x.state(k));
        refused("state", STAGES, 0, 3, BAD, (x, k) -> x.state(k));
    }

    private static void counts() {
        int[][] wanted = {{0, 0, 0, 0, 0}, {5, 5, 0, 0, 1}, {6, 5, 0, 0, 1}};
        for (int stage : STAGES) {
            int[] row = wanted[stage];
            for (int what = 0; what < row.length; what++) {
                Due.is(STAGE_NAMES[stage] + ": count(" + what + ")", broughtTo(stage).count(what), row[what]);
            }
        }
        refused("count", STAGES, 0, 4, BAD, (x, what) -> x.count(what));
    }

    private static void ages() {
        answered("error(3, ?)", WITH_TRIALS, 0, -777, 4, -77, (x, age) -> x.error(3, age));
        answered("norm", WITH_TRIALS, 0, 1087, 4, 427, (x, age) -> x.norm(age));
        answered("shift", WITH_TRIALS, 0, 1, 4, 0, (x, age) -> x.shift(age));
        answered("worstSample", WITH_TRIALS, 0, 3, 4, 0, (x, age) -> x.worstSample(age));
        answered("energy", WITH_TRIALS, 0, 683029, 4, 98429, (x, age) -> x.energy(age));
        answered("error(3, ?)", ONLY_NO_TRIAL, 0, NONE, 4, NONE, (x, age) -> x.error(3, age));
        answered("norm", ONLY_NO_TRIAL, 0, NONE, 4, NONE, (x, age) -> x.norm(age));
        answered("shift", ONLY_NO_TRIAL, 0, NONE, 4, NONE, (x, age) -> x.shift(age));
        answered("worstSample", ONLY_NO_TRIAL, 0, NONE, 4, NONE, (x, age) -> x.worstSample(age));
        answered("energy", ONLY_NO_TRIAL, 0, -2, 4, -2, (x, age) -> x.energy(age));
        refused("error(3, ?)", STAGES, 0, 4, BAD, (x, age) -> x.error(3, age));
        refused("norm", STAGES, 0, 4, BAD, (x, age) -> x.norm(age));
        refused("shift", STAGES, 0, 4, BAD, (x, age) -> x.shift(age));
        refused("worstSample", STAGES, 0, 4, BAD, (x, age) -> x.worstSample(age));
        refused("energy", STAGES, 0, 4, -1, (x, age) -> x.energy(age));
    }

    private static void best() {
        answered("best", WITH_TRIALS, 0, 387, 1, 3, (x, what) -> x.best(what));
        answered("best", ONLY_NO_TRIAL, 0, NONE, 1, NONE, (x, what) -> x.best(what));
        refused("best", STAGES, 0, 1, BAD, (x, what) -> x.best(what));
    }

    private static void plants() {
        range("setPlant(?, 5)", 0, 700, 5, -300, (x, i) -> x.setPlant(i, 5));
        range("setPlant(0, ?)", -3000, 700, 3000, 700, (x, value) -> x.setPlant(0, value));
        range("setPlant(5, ?)", -3000, -300, 3000, -300, (x, value) -> x.setPlant(5, value));
        keeping("setPlant(5, ?)", STAGES, -3000, 3000, (x, value) -> x.setPlant(5, value));
    }

    private static void disturbances() {
        range("setDisturbance(?, 9)", 0, 30, 1000, 30, (x, amplitude) -> x.setDisturbance(amplitude, 9));
        keeping("setDisturbance(?, 9)", STAGES, 0, 1000, (x, amplitude) -> x.setDisturbance(amplitude, 9));
        answered("setDisturbance(7, ?)", STAGES, LOW, 30, HIGH, 30, (x, seed) -> x.setDisturbance(7, seed));
    }

    private static void simulatedTrials() {
        for (int trials : new int[] {1, 20}) {
            RepeatLearner x = Due.withSamples(4);
            x.setReference(0, 1000000);
            x.setGain(0, 0);
            Due.is("simulate(" + trials + ")", x.simulate(trials), 1000000);
            Due.is("simulate(" + trials + "): count(1)", x.count(1), trials);
        }
        refused("simulate", STAGES, 1, 20, BAD, (x, trials) -> x.simulate(trials));
        Twins.refused("in a trial: simulate(1)", () -> broughtTo(IN_A_TRIAL), RUNNING, x -> x.simulate(1));
        Twins.refused("in a trial: simulate(20)", () -> broughtTo(IN_A_TRIAL), RUNNING, x -> x.simulate(20));
    }

    /** What is a sample goes by N: of a new object, of the shortest trial, and of the longest one. */
    private static void samplesOfOtherLengths() {
        for (int samples : new int[] {4, 5, 16, 47, 48}) {
            RepeatLearner x = new RepeatLearner();
            if (samples != 16) {
                x.reset(samples);
            }
            Due.is("setReference(N - 1, 1)", x.setReference(samples - 1, 1), 0);
            Due.is("setInput(N - 1, 2)", x.setInput(samples - 1, 2), 0);
            x.simulate(1);
            Due.is("reference(N - 1)", x.reference(samples - 1), 1);
            Due.is("bestInput(N - 1)", x.bestInput(samples - 1), 2);
            Due.is("error(N - 1, 0)", x.error(samples - 1, 0), -1);
            Due.is("input(N - 1)", x.input(samples - 1), 1);
            Due.is("state(N - 1)", x.state(samples - 1), 3);
            for (int bad : new int[] {samples, -1}) {
                String what = "N = " + samples + ", sample " + bad + ": ";
                Due.is(what + "setReference", x.setReference(bad, 0), BAD);
                Due.is(what + "setInput", x.setInput(bad, 0), BAD);
                Due.is(what + "reference", x.reference(bad), BAD);
                Due.is(what + "input", x.input(bad), BAD);
                Due.is(what + "bestInput", x.bestInput(bad), BAD);
                Due.is(what + "error", x.error(bad, 0), BAD);
                Due.is(what + "state", x.state(bad), BAD);
            }
        }
    }
}
