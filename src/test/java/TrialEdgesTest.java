/** The edges of the end of a trial: alignment, the best trial, bad trials, fallbacks and aborted trials. */
public final class TrialEdgesTest {
    private static final int NONE = RepeatLearner.NONE;
    private static final int NOT_RUNNING = RepeatLearner.NOT_RUNNING;

    public static void main(String[] args) {
        firstCompleteTrialIsNotShifted();
        firstCompleteTrialAfterResetIsNotShifted();
        eachShiftRepeatsTheEnds();
        shiftsBeyondTheGreatestAreNotTried();
        shiftsLongerThanTheTrial();
        equalSumsOfTwoShifts();
        equalSumOfShiftZero();
        sumsAreOfAbsoluteValues();
        theLastSampleCountsForTheSum();
        alignmentIsByAlignedOutputs();
        alignmentIsByTheLatestTrial();
        greatestShiftAppliesFromThenOn();
        errorsAreByThePresentReferences();
        firstTrialBecomesTheBest();
        equalNorm();
        normsNextToTheBest();
        normZeroIsNotBeaten();
        bestInputsAreTheUsedOnes();
        oneBadTrialIsNoFallback();
        equalNormBetweenBadTrials();
        fallbackIsNoCorrection();
        fallbackHalvesTheGain();
        guardOffNeverFallsBack();
        guardSwitchedOnBeforeTheLastSample();
        guardOnWithManyBadTrials();
        abortOfNothing();
        abortIsNotAligned();
        abortCountsForNoOtherTrial();
        abortLearnsByThePresentReferences();
        abortLearnsByThePresentSettings();
        trialsBeginAtTheFirstSample();
        Due.finish();
    }

    /** A row with one pulse in it for each of these samples. */
    private static int[] pulses(int samples, int height, int... at) {
        int[] row = new int[samples];
        for (int k : at) {
            row[k] = height;
        }
        return row;
    }

    private static RepeatLearner withShift(int samples, int greatest) {
        RepeatLearner x = Due.withSamples(samples);
        x.setGreatestShift(greatest);
        return x;
    }

    private static void firstCompleteTrialIsNotShifted() {
        RepeatLearner x = withShift(6, 5);
        Due.trial(x, 0, 0, 0, 0, 0);
        x.abort();
        Due.trial(x, 9, 0, 0, 0, 0, 9);
        Due.is("shift(0) of the first trial", x.shift(0), 0);
        Due.errors("the first trial", x, 0, -9, 0, 0, 0, 0, -9);
        Due.trial(x, 9, 9, 0, 0, 0, 0);
        Due.is("shift(0) of the second trial", x.shift(0), 1);
    }

    private static void firstCompleteTrialAfterResetIsNotShifted() {
        RepeatLearner x = withShift(6, 5);
        Due.trial(x, 0, 0, 9, 0, 0, 0);
        x.reset(6);
        x.setGreatestShift(5);
        Due.trial(x, 0, 0, 0, 9, 0, 0);
        Due.is("shift(0) of the first trial after reset", x.shift(0), 0);
    }

    /** raw(0) for indices below 0, raw(N - 1) for indices above N - 1. */
    private static void eachShiftRepeatsTheEnds() {
        int[] raw = {10, 20, 30, 40, 50, 60, 70, 80};
        int[][] wanted = {
            {10, 10, 10, 10, 10, 10, 20, 30}, {10, 10, 10, 10, 10, 20, 30, 40}, {10, 10, 10, 10, 20, 30, 40, 50},
            {10, 10, 10, 20, 30, 40, 50, 60}, {10, 10, 20, 30, 40, 50, 60, 70}, {10, 20, 30, 40, 50, 60, 70, 80},
            {20, 30, 40, 50, 60, 70, 80, 80}, {30, 40, 50, 60, 70, 80, 80, 80}, {40, 50, 60, 70, 80, 80, 80, 80},
            {50, 60, 70, 80, 80, 80, 80, 80}, {60, 70, 80, 80, 80, 80, 80, 80},
        };
        for (int shift = -5; shift <= 5; shift++) {
            RepeatLearner x = withShift(8, 5);
            Due.trial(x, wanted[shift + 5]);
            Due.trial(x, raw);
            Due.is("shift(0)", x.shift(0), shift);
            for (int k = 0; k < 8; k++) {
                Due.is("shift " + shift + ": error(" + k + ", 0)", x.error(k, 0), -wanted[shift + 5][k]);
            }
        }
    }

    private static void shiftsBeyondTheGreatestAreNotTried() {
        for (int greatest = 0; greatest <= 5; greatest++) {
            for (int size = 0; size <= 5; size++) {
                RepeatLearner x = withShift(16, greatest);
                Due.trial(x, 0, 0, 0, 0, 0, 0, 1, 2, 3, 4, 5, 5, 5, 5, 5, 5);
                int[] late = new int[16];
                int[] early = new int[16];
                for (int k = 0; k < 16; k++) {
                    late[k] = Math.max(0, Math.min(5, k - 5 - size));
                    early[k] = Math.max(0, Math.min(5, k - 5 + size));
                }
                Due.trial(x, late);
                Due.is("greatest shift " + greatest + ", late by " + size, x.shift(0), Math.min(greatest, size));
                RepeatLearner y = withShift(16, greatest);
                Due.trial(y, 0, 0, 0, 0, 0, 0, 1, 2, 3, 4, 5, 5, 5, 5, 5, 5);
                Due.trial(y, early);
                Due.is("greatest shift " + greatest + ", early by " + size, y.shift(0), -Math.min(greatest, size));
            }
        }
    }

    /** With 4 samples the shifts from 3 on give the same outputs, and so do those from -3 on. */
    private static void shiftsLongerThanTheTrial() {
        RepeatLearner x = withShift(4, 5);
        Due.trial(x, 8, 8, 8, 8);
        Due.trial(x, 8, 1, 2, 3);
        Due.is("all indices below 0", x.shift(0), -3);
        Due.errors("all indices below 0", x, 0, -8, -8, -8, -8);
        RepeatLearner y = withShift(4, 5);
        Due.trial(y, 8, 8, 8, 8);
        Due.trial(y, 3, 2, 1, 8);
        Due.is("all indices above N - 1", y.shift(0), 3);
        Due.errors("all indices above N - 1", y, 0, -8, -8, -8, -8);
        RepeatLearner z = withShift(4, 5);
        Due.trial(z, 8, 8, 8, 8);
        Due.trial(z, 8, 0, 0, 8);
        Due.is("the negative one of the two", z.shift(0), -3);
    }

    /** The first trial has two pulses, the second one a single pulse that fits either of them. */
    private static void equalSumsOfTwoShifts() {
        int[][] twoAndWanted = {
            {-1, 1, -1}, {-2, 2, -2}, {-3, 3, -3}, {-4, 4, -4}, {-5, 5, -5},
            {1, -2, 1}, {2, -3, 2}, {4, -5, 4}, {1, -5, 1},
            {-1, 2, -1}, {-4, 5, -4}, {2, 3, 2}, {1, 5, 1}, {-2, -3, -2}, {-4, -5, -4}, {0, -1, 0}, {0, 1, 0}, {0, 5, 0},
        };
        for (int height : new int[] {10, -10, 1000000}) {
            for (int[] row : twoAndWanted) {
                RepeatLearner x = withShift(15, 5);
                Due.trial(x, pulses(15, height, 7 - row[0], 7 - row[1]));
                Due.trial(x, pulses(15, height, 7));
                Due.is("equal sums of " + row[0] + " and " + row[1], x.shift(0), row[2]);
            }
        }
    }

    private static void equalSumOfShiftZero() {
        RepeatLearner x = withShift(5, 5);
        Due.trial(x, 4, 4, 4, 4, 4);
        Due.trial(x, -4, -4, -4, -4, -4);
        Due.is("all sums equal", x.shift(0), 0);
        RepeatLearner y = withShift(5, 1);
        Due.trial(y, 0, 0, 5, 0, 0);
        Due.trial(y, 0, 7, 0, 7, 0);
        Due.is("a greater sum of 0", y.shift(0), -1);
        RepeatLearner z = withShift(5, 1);
        Due.trial(z, 0, 3, 3, 0, 0);
        Due.trial(z, 0, 0, 3, 0, 0);
        Due.is("an equal sum of 0 and 1", z.shift(0), 0);
    }

    /** The sums of the differences themselves would be the same for all shifts, or even less for another one. */
    private static void sumsAreOfAbsoluteValues() {
        RepeatLearner x = withShift(8, 2);
        Due.trial(x, 0, 0, 9, -9, 0, 0, 0, 0);
        Due.trial(x, 0, 0, 0, 9, -9, 0, 0, 0);
        Due.is("pulses of both signs", x.shift(0), 1);
        RepeatLearner y = withShift(4, 3);
        Due.trial(y, 100, 100, 100, 100);
        Due.trial(y, -900, 0, 90, 95);
        Due.is("outputs far below", y.shift(0), 3);
        RepeatLearner z = withShift(4, 3);
        Due.trial(z, 1000000, -1000000, 1000000, -1000000);
        Due.trial(z, -1000000, 1000000, -1000000, 1000000);
        Due.is("the greatest differences", z.shift(0), -1);
    }

    /** k runs over all samples: only the last one decides here, and then only the first one. */
    private static void theLastSampleCountsForTheSum() {
        RepeatLearner x = withShift(4, 1);
        Due.trial(x, 5, 5, 5, 0);
        Due.trial(x, 5, 5, 5, 5);
        Due.is("no shift helps", x.shift(0), 0);
        RepeatLearner y = withShift(4, 1);
        Due.trial(y, 5, 5, 5, 5);
        Due.trial(y, 5, 5, 5, 0);
        Due.is("the last sample", y.shift(0), -1);
        RepeatLearner z = withShift(4, 1);
        Due.trial(z, 5, 5, 5, 5);
        Due.trial(z, 0, 5, 5, 5);
        Due.is("the first sample", z.shift(0), 1);
    }

    private static void alignmentIsByAlignedOutputs() {
        RepeatLearner x = withShift(9, 2);
        x.setGain(0, 0);
        Due.trial(x, pulses(9, 10, 3));
        Due.trial(x, pulses(9, 10, 5));
        Due.is("late by 2", x.shift(0), 2);
        Due.trial(x, pulses(9, 10, 5));
        Due.is("late by 2 again", x.shift(0), 2);
        Due.trial(x, pulses(9, 10, 1));
        Due.is("early by 2", x.shift(0), -2);
        Due.errors("aligned outputs", x, 0, 0, 0, 0, -10, 0, 0, 0, 0, 0);
    }

    private static void alignmentIsByTheLatestTrial() {
        RepeatLearner x = withShift(9, 2);
        Due.trial(x, pulses(9, 10, 2));
        x.setGreatestShift(0);
        Due.trial(x, pulses(9, 10, 6));
        x.setGreatestShift(2);
        Due.trial(x, pulses(9, 10, 4));
        Due.is("by the trial before, not by the first or the best one", x.shift(0), -2);
    }

    private static void greatestShiftAppliesFromThenOn() {
        RepeatLearner x = withShift(6, 0);
        Due.trial(x, 0, 0, 9, 0, 0, 0);
        Due.trial(x, 0, 0, 0, 9, 0);
        x.setGreatestShift(1);
        x.record(0);
        Due.is("set before the last sample", x.shift(0), 1);
        x.setGreatestShift(0);
        Due.is("what was found stays", x.shift(0), 1);
    }

    private static void errorsAreByThePresentReferences() {
        RepeatLearner x = Due.withSamples(4);
        x.setReference(0, 1000);
        Due.trial(x, 1, 2, 3);
        x.setReference(0, 100);
        x.setReference(3, 7);
        x.record(4);
        x.setReference(0, 5000);
        Due.errors("by the references at the end", x, 0, 99, -2, -3, 3);
        Due.is("norm(0)", x.norm(0), 107);
        Due.is("best(0)", x.best(0), 107);
    }

    private static void firstTrialBecomesTheBest() {
        RepeatLearner x = Due.withSamples(4);
        for (int k = 0; k < 4; k++) {
            x.setReference(k, 1000000);
        }
        Due.trial(x, -1000000, -1000000, -1000000, -1000000);
        Due.is("the greatest norm is the best one yet", x.best(0), 8000000);
        Due.is("its number", x.best(1), 0);
        Due.is("bad trials", x.count(4), 0);
        Due.trial(x, -1000000, -1000000, -1000000, -1000000);
        Due.is("an equal one is not bad", x.count(4), 0);
        Due.trial(x, -1000000, -1000000, -1000000, -999999);
        Due.is("a better one", x.best(0), 7999999);
        Due.is("its number", x.best(1), 2);
    }

    private static void equalNorm() {
        RepeatLearner x = Due.withSamples(4);
        x.setGain(0, 0);
        x.setInput(0, 5);
        Due.trial(x, 20, 0, 0, 0);
        x.setInput(0, 6);
        Due.trial(x, 21, 0, 0, 0);
        Due.is("a bad trial", x.count(4), 1);
        Due.trial(x, 0, 0, -10, 10);
        Due.is("bad trials after an equal norm", x.count(4), 0);
        Due.is("best(1) after an equal norm", x.best(1), 0);
        Due.is("bestInput(0) after an equal norm", x.bestInput(0), 5);
    }

    private static void normsNextToTheBest() {
        RepeatLearner x = Due.withSamples(4);
        x.setGain(0, 0);
        Due.trial(x, 20, 0, 0, 0);
        x.setInput(1, 8);
        Due.trial(x, 20, 0, 1, 0);
        Due.is("greater by 1: count(4)", x.count(4), 1);
        Due.is("greater by 1: best(0)", x.best(0), 20);
        Due.trial(x, 20, 0, -1, 0);
        Due.is("greater by 1 again: count(4)", x.count(4), 2);
        Due.trial(x, 19, 0, 0, 0);
        Due.is("less by 1: count(4)", x.count(4), 0);
        Due.is("less by 1: best(0)", x.best(0), 19);
        Due.is("less by 1: best(1)", x.best(1), 3);
        Due.is("less by 1: bestInput(1)", x.bestInput(1), 8);
    }

    private static void normZeroIsNotBeaten() {
        RepeatLearner x = Due.withSamples(4);
        Due.is("simulate(1)", x.simulate(1), 0);
        x.setInput(2, 3);
        Due.trial(x, 0, 0, 0, 0);
        Due.is("best(0)", x.best(0), 0);
        Due.is("best(1)", x.best(1), 0);
        Due.is("bestInput(2)", x.bestInput(2), 0);
        Due.trial(x, 0, 0, 0, 1);
        Due.is("count(4)", x.count(4), 1);
    }

    private static void bestInputsAreTheUsedOnes() {
        RepeatLearner x = Due.withSamples(4);
        x.setInput(0, 10);
        x.setInput(3, -10);
        Due.trial(x, 100, 0, 0, -100);
        Due.inputs("corrected", x, -40, 0, 0, 40);
        Due.is("bestInput(0)", x.bestInput(0), 10);
        Due.is("bestInput(3)", x.bestInput(3), -10);
        x.setInput(0, 77);
        Due.is("bestInput(0) after setInput", x.bestInput(0), 10);
    }

    private static RepeatLearner guarded(int gain) {
        RepeatLearner x = Due.withSamples(4);
        x.setGuard(true);
        x.setGain(gain, 0);
        x.setInput(0, 500);
        Due.trial(x, 10, 0, 0, 0);
        return x;
    }

    private static void oneBadTrialIsNoFallback() {
        RepeatLearner x = guarded(1000);
        Due.trial(x, 11, 0, 0, 0);
        Due.is("one bad trial: count(3)", x.count(3), 0);
        Due.is("one bad trial: count(4)", x.count(4), 1);
        Due.inputs("one bad trial", x, 479, 0, 0, 0);
        Due.trial(x, 11, 0, 0, 0);
        Due.is("two bad trials: count(3)", x.count(3), 1);
        Due.is("two bad trials: count(4)", x.count(4), 0);
        Due.inputs("two bad trials", x, 500, 0, 0, 0);
        Due.is("two bad trials: norm(0)", x.norm(0), 11);
        Due.is("two bad trials: best(0)", x.best(0), 10);
        Due.trial(x, 11, 0, 0, 0);
        Due.is("bad trials are counted anew: count(3)", x.count(3), 1);
        Due.is("bad trials are counted anew: count(4)", x.count(4), 1);
        Due.trial(x, 12, 0, 0, 0);
        Due.is("a second fallback: count(3)", x.count(3), 2);
    }

    private static void equalNormBetweenBadTrials() {
        RepeatLearner x = guarded(0);
        for (int i = 0; i < 3; i++) {
            Due.trial(x, 11, 0, 0, 0);
            Due.is("a bad trial", x.count(4), 1);
            Due.trial(x, 0, -10, 0, 0);
            Due.is("an equal norm", x.count(4), 0);
        }
        Due.trial(x, 11, 0, 0, 0);
        Due.trial(x, 9, 0, 0, 0);
        Due.is("a better norm", x.count(4), 0);
        Due.is("count(3)", x.count(3), 0);
    }

    private static void fallbackIsNoCorrection() {
        RepeatLearner x = guarded(2000);
        x.setInput(1, -800);
        x.setInput(3, 900);
        Due.trial(x, 99, 0, 0, 0);
        x.setLimits(100, 4);
        x.setSmoothing(333, 4);
        Due.trial(x, 99, 50, 40, 30);
        Due.is("count(3)", x.count(3), 1);
        Due.inputs("not corrected, smoothed or limited", x, 500, 0, 0, 0);
        x.setSmoothing(0, 0);
        Due.trial(x, 99, 0, 0, 0);
        Due.inputs("limited at the next correction", x, 100, 0, 0, 0);
    }

    private static void fallbackHalvesTheGain() {
        int[][] gainAndHalf = {{0, 0}, {1, 0}, {2, 1}, {3, 1}, {1999, 999}, {2000, 1000}};
        for (int[] row : gainAndHalf) {
            RepeatLearner x = guarded(row[0]);
            x.setGain(row[0], 3);
            Due.trial(x, 11, 0, 0, 0);
            Due.is("gain " + row[0] + " after a bad trial", x.setting(1), row[0]);
            Due.trial(x, 11, 0, 0, 0);
            Due.is("gain " + row[0] + " after a fallback", x.setting(1), row[1]);
            Due.is("the lead stays", x.setting(2), 3);
            Due.is("the guard stays", x.setting(10), 1);
        }
    }

    private static void guardOffNeverFallsBack() {
        RepeatLearner x = guarded(1000);
        x.setGuard(false);
        for (int i = 1; i <= 6; i++) {
            Due.trial(x, 11, 0, 0, 0);
            Due.is("guard off: count(4)", x.count(4), i);
            Due.is("guard off: input(0)", x.input(0), 490 - 11 * i);
        }
        Due.is("guard off: count(3)", x.count(3), 0);
        Due.is("guard off: setting(1)", x.setting(1), 1000);
    }

    private static void guardSwitchedOnBeforeTheLastSample() {
        RepeatLearner x = guarded(1000);
        x.setGuard(false);
        Due.trial(x, 11, 0, 0, 0);
        Due.trial(x, 11, 0, 0);
        x.setGuard(true);
        Due.is("count(3) before", x.count(3), 0);
        x.record(0);
        Due.is("count(3) at the end of the second bad trial", x.count(3), 1);
        Due.trial(x, 11, 0, 0, 0);
        Due.trial(x, 11, 0, 0);
        x.setGuard(false);
        x.record(0);
        Due.is("count(3) with the guard off again", x.count(3), 1);
        Due.is("count(4) with the guard off again", x.count(4), 2);
    }

    private static void guardOnWithManyBadTrials() {
        for (int output : new int[] {9, 10, 11}) {
            RepeatLearner x = guarded(1000);
            x.setGuard(false);
            for (int i = 0; i < 3; i++) {
                Due.trial(x, 50, 0, 0, 0);
            }
            x.setGuard(true);
            Due.is("setGuard is no fallback: count(4)", x.count(4), 3);
            Due.trial(x, output, 0, 0, 0);
            Due.is("norm " + output + ": count(3)", x.count(3), output > 10 ? 1 : 0);
            Due.is("norm " + output + ": count(4)", x.count(4), 0);
            Due.is("norm " + output + ": input(0)", x.input(0), output > 10 ? 500 : 340 - output);
        }
    }

    private static void abortOfNothing() {
        RepeatLearner x = guarded(1000);
        Due.trial(x, 11, 0, 0, 0);
        x.setInput(2, 3000);
        x.setSmoothing(333, 4);
        x.setLimits(1, 4);
        Due.is("startTrial()", x.startTrial(), 2);
        Due.is("abort() of nothing", x.abort(), 0);
        Due.inputs("nothing else happens", x, 479, 0, 3000, 0);
        Due.is("count(0)", x.count(0), 3);
        Due.is("count(1)", x.count(1), 2);
        Due.is("count(2)", x.count(2), 1);
        Due.is("count(4)", x.count(4), 1);
        Due.is("position()", x.position(), NOT_RUNNING);
        Due.is("norm(2)", x.norm(2), NONE);
    }

    private static void abortIsNotAligned() {
        RepeatLearner x = withShift(6, 5);
        x.setGain(1000, 0);
        x.setLimits(1000000, 1);
        Due.trial(x, pulses(6, 10, 2));
        Due.inputs("a complete trial", x, 0, 0, -10, 0, 0, 0);
        Due.trial(x, 0, 0, 0, 10, 0);
        Due.is("abort()", x.abort(), 5);
        Due.inputs("the raw outputs", x, 0, 0, -10, -10, 0, 0);
        Due.is("shift(0)", x.shift(0), 0);
    }

    private static void abortCountsForNoOtherTrial() {
        RepeatLearner x = withShift(8, 2);
        x.setGain(0, 0);
        x.setTolerance(5, 2);
        x.setReference(0, 100);
        Due.trial(x, 0, 0, 0, 10, 0, 0, 0, 0);
        Due.trial(x, 100, 0, 0, 0, 0, 0, 0);
        Due.is("abort() of N - 1 samples", x.abort(), 7);
        Due.is("count(1)", x.count(1), 1);
        Due.is("norm(0)", x.norm(0), 110);
        Due.is("norm(1)", x.norm(1), NONE);
        Due.is("best(0)", x.best(0), 110);
        Due.is("best(1)", x.best(1), 0);
        Due.is("state(1) with one complete trial", x.state(1), 3);
        Due.trial(x, 0, 0, 0, 0, 10, 0, 0, 0);
        Due.is("aligned with the complete trial", x.shift(0), 1);
        Due.is("state(1) with two complete trials", x.state(1), 1);
        Due.trial(x, 5000, 0, 0);
        x.abort();
        Due.is("a great error of an aborted trial: count(4)", x.count(4), 0);
        x.setReference(0, 101);
        Due.trial(x, 0, 0, 0, 10, 0, 0, 0, 0);
        Due.is("a bad trial", x.count(4), 1);
        Due.trial(x, 101, 0, 0);
        x.abort();
        Due.is("a good beginning of an aborted trial: count(4)", x.count(4), 1);
    }

    private static void abortLearnsByThePresentReferences() {
        RepeatLearner x = Due.withSamples(4);
        x.setReference(0, 1000);
        Due.trial(x, 200, 0);
        x.setReference(0, 600);
        x.setReference(1, -80);
        Due.is("abort()", x.abort(), 2);
        Due.inputs("by the references at the abort", x, 100, -10, 0, 0);
    }

    private static void abortLearnsByThePresentSettings() {
        RepeatLearner x = Due.withSamples(5);
        x.setInput(4, 1000);
        Due.trial(x, -1000, -1000, -1000, -1000);
        x.setGain(2000, 1);
        x.setLimits(1500, 2);
        x.setSmoothing(100, 1);
        Due.is("abort()", x.abort(), 4);
        Due.inputs("by the settings at the abort", x, 1500, 1500, 1000, 200, 900);
    }

    private static void trialsBeginAtTheFirstSample() {
        RepeatLearner x = Due.withSamples(4);
        Due.trial(x, 9, 9, 9);
        x.abort();
        Due.is("startTrial()", x.startTrial(), 1);
        Due.is("position()", x.position(), 0);
        for (int k = 0; k < 3; k++) {
            x.record(k);
            Due.is("position() behind sample " + k, x.position(), k + 1);
        }
        Due.is("the last sample", x.record(3), NONE);
        Due.errors("none is left of the aborted trial", x, 0, 0, -1, -2, -3);
    }
}
