/** The edges of the correction by errors: rounding down, the lead, smoothing at both ends, and the limits. */
public final class CorrectionEdgesTest {
    public static void main(String[] args) {
        correctionsRoundDown();
        partsAreDividedOnce();
        partsRoundDown();
        partsOfOneSample();
        partsOfAllButOneSample();
        partsAroundTheBlend();
        partsWithEachBlend();
        leadsUpToTheLastSample();
        leadsBeyondThePart();
        errorsOfTrialsBeforeAreNotKnown();
        weightsGoByTheErrorsSample();
        unknownErrorsStillSmoothAndLimit();
        smoothingRepeatsTheFirstInput();
        smoothingRepeatsTheLastInput();
        smoothingIsAtTheSameTime();
        smoothingPasses();
        smoothingRoundsDown();
        smoothingWithWeightsAtTheEnds();
        limitsAreReached();
        limitsComeAfterSmoothing();
        limitsComeAfterAllPasses();
        theGreatestCorrections();
        noInputIsLimitedBetweenCorrections();
        Due.finish();
    }

    /** One complete trial of which these are the errors; the references are 0. */
    private static void learn(RepeatLearner x, int... errors) {
        x.startTrial();
        for (int error : errors) {
            x.record(-error);
        }
    }

    private static void setInputs(RepeatLearner x, int... values) {
        for (int k = 0; k < values.length; k++) {
            x.setInput(k, values[k]);
        }
    }

    /** No error changes the inputs; they are only smoothed and limited. */
    private static RepeatLearner withoutGain(int... inputs) {
        RepeatLearner x = Due.withSamples(inputs.length);
        x.setGain(0, 0);
        setInputs(x, inputs);
        return x;
    }

    private static void correctionsRoundDown() {
        RepeatLearner x = Due.withSamples(8);
        learn(x, -1, 1, -2, 2, -3, 3, -999, 999);
        Due.inputs("gain 500", x, -1, 0, -1, 1, -2, 1, -500, 499);
        RepeatLearner y = Due.withSamples(8);
        y.setGain(1, 0);
        learn(y, -1, 999, -999, 1000, -1000, 1001, -1001, 0);
        Due.inputs("gain 1", y, -1, 0, -1, 1, -1, 1, -2, 0);
        RepeatLearner z = Due.withSamples(4);
        z.setGain(1999, 0);
        learn(z, -1, 1, -1000, 1000);
        Due.inputs("gain 1999", z, -2, 1, -1999, 1999);
    }

    private static void partsAreDividedOnce() {
        RepeatLearner x = Due.withSamples(5);
        x.setLimits(1000000, 3);
        learn(x, 5, 3, 3, 7);
        Due.is("abort()", x.abort(), 4);
        Due.inputs("g * e * w / (1000 * b)", x, 2, 1, 1, 1, 0);
    }

    private static void partsRoundDown() {
        RepeatLearner x = Due.withSamples(5);
        x.setLimits(1000000, 3);
        learn(x, -5, -1, -3, -7);
        Due.is("abort()", x.abort(), 4);
        Due.inputs("g * e * w / (1000 * b) of negative errors", x, -3, -1, -1, -2, 0);
    }

    private static void partsOfOneSample() {
        RepeatLearner x = Due.withSamples(4);
        x.setGain(1000, 0);
        learn(x, 401);
        Due.is("abort() after one sample", x.abort(), 1);
        Due.inputs("one sample with weight 1 out of 4", x, 100, 0, 0, 0);
    }

    private static void partsOfAllButOneSample() {
        for (int samples : new int[] {4, 16, 48}) {
            RepeatLearner x = new RepeatLearner();
            x.reset(samples);
            x.setGain(1000, 0);
            x.startTrial();
            for (int k = 0; k < samples - 1; k++) {
                x.record(-400);
            }
            Due.is("abort() of N - 1 samples", x.abort(), samples - 1);
            for (int k = 0; k < samples; k++) {
                int weight = Math.min(4, samples - 1 - k);
                Due.is("N = " + samples + ": input(" + k + ")", x.input(k), 100 * weight);
            }
            Due.is("N - 1 samples are no complete trial", x.count(1), 0);
        }
    }

    private static void partsAroundTheBlend() {
        int[][] wanted = {
            {0, 0, 0, 0, 0, 0, 0}, {100, 0, 0, 0, 0, 0, 0}, {200, 100, 0, 0, 0, 0, 0}, {300, 200, 100, 0, 0, 0, 0},
            {400, 300, 200, 100, 0, 0, 0}, {400, 400, 300, 200, 100, 0, 0}, {400, 400, 400, 300, 200, 100, 0},
        };
        for (int recorded = 0; recorded < 7; recorded++) {
            RepeatLearner x = Due.withSamples(7);
            x.setGain(1000, 0);
            learn(x, new int[recorded]);
            for (int k = 0; k < 7; k++) {
                x.setReference(k, 400);
            }
            Due.is("abort()", x.abort(), recorded);
            Due.inputs(recorded + " samples with blend 4", x, wanted[recorded]);
        }
    }

    private static void partsWithEachBlend() {
        int[][] wanted = {
            {2520, 2520, 2520}, {2520, 2520, 1260}, {2520, 1680, 840}, {1890, 1260, 630}, {1512, 1008, 504},
            {1260, 840, 420}, {1080, 720, 360}, {945, 630, 315}, {840, 560, 280}, {756, 504, 252},
        };
        for (int blend = 1; blend <= 10; blend++) {
            RepeatLearner x = Due.withSamples(4);
            x.setGain(1000, 0);
            x.setLimits(1000000, blend);
            learn(x, 2520, 2520, 2520);
            x.abort();
            Due.inputs("three samples with blend " + blend, x, wanted[blend - 1]);
            RepeatLearner y = Due.withSamples(4);
            y.setGain(1000, 0);
            y.setLimits(1000000, blend);
            learn(y, 7, 7, 7, -7);
            Due.inputs("a complete trial with blend " + blend, y, 7, 7, 7, -7);
        }
    }

    private static void leadsUpToTheLastSample() {
        int[][] wanted = {{101, 202, 303, 404}, {201, 302, 403, 4}, {301, 402, 3, 4}, {401, 2, 3, 4}, {1, 2, 3, 4}};
        for (int lead = 0; lead <= 8; lead++) {
            RepeatLearner x = Due.withSamples(4);
            x.setGain(1000, lead);
            setInputs(x, 1, 2, 3, 4);
            learn(x, 100, 200, 300, 400);
            Due.inputs("lead " + lead, x, wanted[Math.min(lead, 4)]);
        }
        for (int lead = 0; lead <= 8; lead++) {
            RepeatLearner x = Due.withSamples(9);
            x.setGain(1000, lead);
            learn(x, 0, 0, 0, 0, 0, 0, 0, 0, 9);
            for (int k = 0; k < 9; k++) {
                Due.is("lead " + lead + " of 9 samples: input(" + k + ")", x.input(k), k == 8 - lead ? 9 : 0);
            }
        }
    }

    private static void leadsBeyondThePart() {
        int[][] wanted = {{101, 202, 153, 4}, {201, 152, 3, 4}, {151, 2, 3, 4}, {1, 2, 3, 4}};
        for (int lead = 0; lead <= 8; lead++) {
            RepeatLearner x = Due.withSamples(4);
            x.setGain(1000, lead);
            x.setLimits(1000000, 2);
            setInputs(x, 1, 2, 3, 4);
            x.setReference(3, 5000);
            learn(x, 100, 200, 300);
            Due.is("abort()", x.abort(), 3);
            Due.inputs("3 samples and lead " + lead, x, wanted[Math.min(lead, 3)]);
        }
    }

    /** The errors that the lead would reach are those of a trial before, or of a longer one before reset. */
    private static void errorsOfTrialsBeforeAreNotKnown() {
        RepeatLearner x = Due.withSamples(9);
        x.setGain(1000, 8);
        x.setLimits(1000000, 1);
        learn(x, 1, 2, 3, 4, 5, 6, 7, 8);
        Due.is("abort()", x.abort(), 8);
        Due.inputs("lead 8 after 8 samples", x, 0, 0, 0, 0, 0, 0, 0, 0, 0);
        x.setGain(1000, 1);
        learn(x, 10, 20);
        Due.is("abort()", x.abort(), 2);
        Due.inputs("lead 1 after 2 samples", x, 20, 0, 0, 0, 0, 0, 0, 0, 0);
        learn(x, 100, 200, 300, 400, 500, 600, 700, 800, 900);
        learn(x, 0);
        Due.is("abort()", x.abort(), 1);
        Due.inputs("lead 1 after 1 sample", x, 220, 300, 400, 500, 600, 700, 800, 900, 0);
        x.reset(4);
        x.setGain(1000, 1);
        learn(x, 1, 2, 3, 4);
        Due.inputs("lead 1 after 4 samples of 4", x, 2, 3, 4, 0);
        learn(x, 0, 0, 0);
        Due.is("abort()", x.abort(), 3);
        Due.inputs("lead 1 after 3 samples of 4", x, 2, 3, 4, 0);
    }

    private static void weightsGoByTheErrorsSample() {
        RepeatLearner x = Due.withSamples(6);
        x.setGain(1000, 2);
        learn(x, 0, 0, 400, 400, 400);
        Due.is("abort()", x.abort(), 5);
        Due.inputs("w(k + d)", x, 300, 200, 100, 0, 0, 0);
    }

    private static void unknownErrorsStillSmoothAndLimit() {
        RepeatLearner x = Due.withSamples(4);
        x.setGain(1000, 1);
        x.setSmoothing(250, 1);
        x.setLimits(700, 4);
        setInputs(x, 0, 0, 0, 1000);
        learn(x, 400);
        Due.is("abort()", x.abort(), 1);
        Due.inputs("no known error: an aborted trial", x, 0, 0, 250, 700);
        RepeatLearner y = Due.withSamples(4);
        y.setGain(1000, 4);
        y.setSmoothing(250, 1);
        y.setLimits(700, 4);
        setInputs(y, 0, 0, 0, 1000);
        learn(y, 400, 400, 400, 400);
        Due.inputs("no known error: a complete trial", y, 0, 0, 250, 700);
    }

    private static void smoothingRepeatsTheFirstInput() {
        RepeatLearner x = withoutGain(1000, 0, 0, 0);
        x.setSmoothing(333, 1);
        x.simulate(1);
        Due.inputs("u(0) stands for u(-1)", x, 667, 333, 0, 0);
        RepeatLearner y = withoutGain(-1000, -1000, 500, 500);
        y.setSmoothing(300, 1);
        y.simulate(1);
        Due.inputs("equal inputs stay at the ends", y, -1000, -550, 50, 500);
    }

    private static void smoothingRepeatsTheLastInput() {
        RepeatLearner x = withoutGain(0, 0, 0, 1000);
        x.setSmoothing(333, 1);
        x.simulate(1);
        Due.inputs("u(N - 1) stands for u(N)", x, 0, 0, 333, 667);
        RepeatLearner y = new RepeatLearner();
        y.reset(48);
        y.setGain(0, 0);
        y.setInput(47, -1000);
        y.setSmoothing(333, 1);
        y.simulate(1);
        Due.is("N = 48: input(45)", y.input(45), 0);
        Due.is("N = 48: input(46)", y.input(46), -333);
        Due.is("N = 48: input(47)", y.input(47), -667);
    }

    private static void smoothingIsAtTheSameTime() {
        RepeatLearner x = withoutGain(0, 1000, 0, 0, 0);
        x.setSmoothing(333, 1);
        x.simulate(1);
        Due.inputs("the inputs before the pass", x, 333, 334, 333, 0, 0);
    }

    private static void smoothingPasses() {
        int[][] wanted = {
            {0, 0, 1000, 0}, {0, 250, 500, 250}, {62, 250, 375, 312}, {109, 234, 328, 327}, {140, 226, 304, 327},
        };
        for (int passes = 0; passes <= 4; passes++) {
            RepeatLearner x = withoutGain(0, 0, 1000, 0);
            x.setSmoothing(250, passes);
            x.simulate(1);
            Due.inputs(passes + " passes", x, wanted[passes]);
        }
    }

    private static void smoothingRoundsDown() {
        int[][] wanted = {{-1, 0, 0, 0, 0}, {-1, -1, 0, 0, 0}, {-1, -1, -1, 0, 0}, {-1, -1, -1, -1, 0}, {-1, -1, -1, -1, -1}};
        for (int passes = 0; passes <= 4; passes++) {
            RepeatLearner x = withoutGain(-1, 0, 0, 0, 0);
            x.setSmoothing(1, passes);
            x.simulate(1);
            Due.inputs(passes + " passes over a negative input", x, wanted[passes]);
        }
        RepeatLearner y = withoutGain(1, 0, 0, 0);
        y.setSmoothing(1, 1);
        y.simulate(1);
        Due.inputs("a positive input", y, 0, 0, 0, 0);
    }

    private static void smoothingWithWeightsAtTheEnds() {
        RepeatLearner x = withoutGain(900, -900, 7, -7);
        x.setSmoothing(0, 4);
        x.simulate(1);
        Due.inputs("weight 0", x, 900, -900, 7, -7);
        x.setSmoothing(333, 0);
        x.simulate(1);
        Due.inputs("no pass", x, 900, -900, 7, -7);
        x.setSmoothing(333, 1);
        x.simulate(1);
        Due.inputs("weight 333", x, 300, 1, -300, -3);
    }

    private static void limitsAreReached() {
        RepeatLearner x = withoutGain(100, 101, -100, -101, 99, -99);
        x.setLimits(100, 4);
        x.simulate(1);
        Due.inputs("limit 100", x, 100, 100, -100, -100, 99, -99);
        x.setLimits(1, 4);
        x.setInput(5, 0);
        x.setInput(4, -2);
        x.simulate(1);
        Due.inputs("limit 1", x, 1, 1, -1, -1, -1, 0);
        RepeatLearner y = Due.withSamples(4);
        y.setGain(1000, 0);
        setInputs(y, 1000000, -1000000, 999999, -999999);
        learn(y, 1, -1, 1, -1);
        Due.inputs("limit 1000000", y, 1000000, -1000000, 1000000, -1000000);
    }

    private static void limitsComeAfterSmoothing() {
        RepeatLearner x = withoutGain(400, 0, 0, -400);
        x.setSmoothing(250, 1);
        x.setLimits(200, 4);
        x.simulate(1);
        Due.inputs("smoothed, then limited", x, 200, 100, -100, -200);
    }

    private static void limitsComeAfterAllPasses() {
        RepeatLearner x = withoutGain(400, 0, 0, 0);
        x.setSmoothing(250, 2);
        x.setLimits(200, 4);
        x.simulate(1);
        Due.inputs("not limited between two passes", x, 200, 125, 25, 0);
    }

    private static void theGreatestCorrections() {
        RepeatLearner x = Due.withSamples(8);
        x.setGain(2000, 0);
        x.setSmoothing(333, 1);
        x.setInput(0, 1000000);
        x.setInput(7, -1000000);
        x.setReference(0, 1000000);
        x.setReference(7, -1000000);
        Due.trial(x, -1000000, 0, 0, 0, 0, 0, 0, 1000000);
        Due.inputs("5000000 before smoothing", x, 1000000, 1000000, 0, 0, 0, 0, -1000000, -1000000);
        RepeatLearner y = Due.withSamples(5);
        y.setGain(2000, 0);
        y.setLimits(1000000, 10);
        y.setInput(0, -1000000);
        y.setReference(0, 1000000);
        y.setReference(1, -1000000);
        Due.trial(y, -1000000, 1000000, 0, 0);
        Due.is("abort()", y.abort(), 4);
        Due.inputs("4000000 * 4 / 10, and less 4000000 * 3 / 10", y, 600000, -1000000, 0, 0, 0);
    }

    private static void noInputIsLimitedBetweenCorrections() {
        RepeatLearner x = withoutGain(500, -500, 0, 0);
        x.setLimits(100, 4);
        Due.inputs("after setLimits", x, 500, -500, 0, 0);
        Due.is("setInput(3, 1000000)", x.setInput(3, 1000000), 0);
        Due.is("startTrial()", x.startTrial(), 0);
        Due.is("record(0)", x.record(0), -500);
        Due.is("record(0)", x.record(0), 0);
        Due.is("record(0)", x.record(0), 1000000);
        Due.inputs("in a trial", x, 500, -500, 0, 1000000);
        Due.is("record(0)", x.record(0), RepeatLearner.NONE);
        Due.inputs("after the trial", x, 100, -100, 0, 100);
        Due.is("bestInput(0)", x.bestInput(0), 500);
        Due.is("bestInput(3)", x.bestInput(3), 1000000);
    }
}
