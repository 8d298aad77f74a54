/** Promises 18 to 25: counts, errors, norms, shifts, and the best trial. */
public final class HistoryTest {
    private static final int BAD = RepeatLearner.BAD_VALUE;
    private static final int NONE = RepeatLearner.NONE;

    public static void main(String[] args) {
        promise18Count();
        promise18BadTrials();
        promise18Fallbacks();
        promise18GuardSwitchedOnLate();
        promise19And20ErrorAndNorm();
        promise21ShiftFollowsTheTrialBefore();
        promise21ShiftOfEqualMisfits();
        promise21ShiftRepeatsTheEnds();
        promise21ShiftIsLimited();
        promise22WorstSample();
        promise23Energy();
        promise24And25Best();
        promise25BestInputAfterFallback();
        Due.finish();
    }

    private static void countsAre(String what, RepeatLearner x, int... wanted) {
        for (int i = 0; i < wanted.length; i++) {
            Due.is(what + ": count(" + i + ")", x.count(i), wanted[i]);
        }
    }

    private static void promise18Count() {
        RepeatLearner x = Due.withSamples(4);
        countsAre("18: at first", x, 0, 0, 0, 0, 0);
        x.startTrial();
        countsAre("18: started", x, 1, 0, 0, 0, 0);
        x.abort();
        countsAre("18: aborted", x, 1, 0, 1, 0, 0);
        Due.trial(x, 1, 1, 1, 1);
        countsAre("18: complete", x, 2, 1, 1, 0, 0);
        x.simulate(20);
        countsAre("18: simulated", x, 22, 21, 1, 0, 0);
        for (int bad : new int[] {-1, 5, Integer.MIN_VALUE, Integer.MAX_VALUE}) {
            Due.is("18: count(" + bad + ")", x.count(bad), BAD);
        }
        x.reset(4);
        countsAre("18: after reset", x, 0, 0, 0, 0, 0);
    }

    private static void promise18BadTrials() {
        RepeatLearner x = Due.withSamples(4);
        x.setGain(0, 0);
        int[][] outputAndBad = {{50, 0}, {60, 1}, {70, 2}, {55, 3}, {50, 0}, {51, 1}, {49, 0}, {50, 1}, {-49, 0}};
        for (int[] row : outputAndBad) {
            Due.trial(x, row[0], 0, 0, 0);
            Due.is("18: count(4) after " + row[0], x.count(4), row[1]);
        }
        Due.is("18: count(3) without guard", x.count(3), 0);
        Due.is("18: setting(1) without guard", x.setting(1), 0);
    }

    private static void promise18Fallbacks() {
        RepeatLearner x = Due.withSamples(4);
        x.setGuard(true);
        x.setGain(7, 0);
        x.setInput(0, 400);
        Due.trial(x, 1000, 0, 0, 0);
        Due.inputs("18: after the best trial", x, 393, 0, 0, 0);
        Due.trial(x, 2000, 0, 0, 0);
        Due.inputs("18: after a bad trial", x, 379, 0, 0, 0);
        countsAre("18: after a bad trial", x, 2, 2, 0, 0, 1);
        x.setLimits(10, 4);
        Due.trial(x, 1001, 0, 0, 0);
        Due.inputs("18: a fallback is no correction", x, 400, 0, 0, 0);
        countsAre("18: after a fallback", x, 3, 3, 0, 1, 0);
        Due.is("18: setting(1) rounds down", x.setting(1), 3);
        Due.trial(x, 3000, 0, 0, 0);
        Due.inputs("18: corrected again", x, 10, 0, 0, 0);
        Due.trial(x, 1000, 0, 0, 0);
        countsAre("18: an equal norm", x, 5, 5, 0, 1, 0);
        Due.trial(x, 1001, 0, 0, 0);
        Due.trial(x, 1001, 0, 0, 0);
        countsAre("18: after a second fallback", x, 7, 7, 0, 2, 0);
        Due.is("18: setting(1)", x.setting(1), 1);
    }

    private static void promise18GuardSwitchedOnLate() {
        RepeatLearner x = Due.withSamples(4);
        Due.trial(x, 10, 0, 0, 0);
        for (int i = 0; i < 4; i++) {
            Due.trial(x, 20, 0, 0, 0);
        }
        countsAre("18: guard off", x, 5, 5, 0, 0, 4);
        x.setGuard(true);
        countsAre("18: guard on", x, 5, 5, 0, 0, 4);
        Due.trial(x, 20, 0, 0, 0);
        countsAre("18: guard on, at the end of a trial", x, 6, 6, 0, 1, 0);
        Due.is("18: setting(1)", x.setting(1), 250);
    }

    private static void promise19And20ErrorAndNorm() {
        RepeatLearner x = Due.withSamples(4);
        x.setReference(1, 10);
        for (int t = 0; t < 7; t++) {
            Due.is("20: norm(4) before", x.norm(4), t < 5 ? NONE : 10 + 3 * (t - 5));
            Due.is("19: error(2, 4) before", x.error(2, 4), t < 5 ? NONE : -(t - 5));
            Due.trial(x, -t, 0, t, -t);
        }
        for (int age = 0; age < 5; age++) {
            int t = 6 - age;
            Due.errors("19", x, age, t, 10, -t, t);
            Due.is("20: norm(" + age + ")", x.norm(age), 10 + 3 * t);
        }
        for (int bad : new int[] {-1, 5, Integer.MIN_VALUE, Integer.MAX_VALUE}) {
            Due.is("19: error(0, " + bad + ")", x.error(0, bad), BAD);
            Due.is("20: norm(" + bad + ")", x.norm(bad), BAD);
        }
        for (int bad : new int[] {-1, 4, Integer.MIN_VALUE, Integer.MAX_VALUE}) {
            Due.is("19: error(" + bad + ", 0)", x.error(bad, 0), BAD);
        }
        x.reset(4);
        Due.is("19: error(0, 0) of no trial", x.error(0, 0), NONE);
        Due.is("19: error(4, 0) of no trial", x.error(4, 0), BAD);
        Due.is("19: error(0, 5) of no trial", x.error(0, 5), BAD);
        Due.is("20: norm(0) of no trial", x.norm(0), NONE);
        Due.is("20: norm(5) of no trial", x.norm(5), BAD);
    }

    private static void promise21ShiftFollowsTheTrialBefore() {
        RepeatLearner x = Due.withSamples(8);
        x.setGain(0, 0);
        x.setGreatestShift(3);
        x.setReference(3, 100);
        Due.is("21: shift(0) of no trial", x.shift(0), NONE);
        Due.trial(x, 0, 0, 0, 90, 0, 0, 0, 0);
        Due.is("21: shift(0) of the first trial", x.shift(0), 0);
        Due.trial(x, 0, 0, 0, 0, 0, 80, 0, 0);
        Due.is("21: shift(0)", x.shift(0), 2);
        Due.errors("21: aligned", x, 0, 0, 0, 0, 20, 0, 0, 0, 0);
        Due.is("21: norm(0) of aligned outputs", x.norm(0), 20);
        Due.trial(x, 0, 0, 0, 0, 0, 80, 0, 0);
        Due.is("21: shift(0) by aligned outputs", x.shift(0), 2);
        Due.trial(x, 0, 0, 70, 0, 0, 0, 0, 0);
        Due.is("21: shift(0)", x.shift(0), -1);
        Due.errors("21: aligned", x, 0, 0, 0, 0, 30, 0, 0, 0, 0);
        Due.is("21: shift(1)", x.shift(1), 2);
        Due.is("21: shift(3)", x.shift(3), 0);
        Due.is("21: shift(4)", x.shift(4), NONE);
        Due.is("21: shift(5)", x.shift(5), BAD);
        Due.is("21: shift(-1)", x.shift(-1), BAD);
    }

    private static void promise21ShiftOfEqualMisfits() {
        RepeatLearner x = Due.withSamples(7);
        x.setGreatestShift(1);
        Due.trial(x, 0, 0, 10, 0, 10, 0, 0);
        Due.trial(x, 0, 0, 0, 10, 0, 0, 0);
        Due.is("21: the negative one of two", x.shift(0), -1);
        Due.errors("21: the negative one of two", x, 0, 0, 0, 0, 0, -10, 0, 0);
        RepeatLearner y = Due.withSamples(6);
        y.setGreatestShift(2);
        Due.trial(y, 7, 7, 7, 7, 7, 7);
        Due.trial(y, 7, 7, 7, 7, 7, 7);
        Due.is("21: the least absolute value", y.shift(0), 0);
        RepeatLearner z = Due.withSamples(8);
        z.setGreatestShift(3);
        Due.trial(z, 0, 0, 10, 0, 0, 10, 0, 0);
        Due.trial(z, 0, 0, 0, 10, 0, 0, 0, 0);
        Due.is("21: the nearer positive one", z.shift(0), 1);
    }

    private static void promise21ShiftRepeatsTheEnds() {
        RepeatLearner x = Due.withSamples(6);
        x.setGreatestShift(5);
        Due.trial(x, 3, 4, 5, 6, 6, 6);
        Due.trial(x, 1, 2, 3, 4, 5, 6);
        Due.is("21: shift beyond the end", x.shift(0), 2);
        Due.errors("21: shift beyond the end", x, 0, -3, -4, -5, -6, -6, -6);
        RepeatLearner y = Due.withSamples(6);
        y.setGreatestShift(5);
        Due.trial(y, 1, 1, 1, 2, 3, 4);
        Due.trial(y, 1, 2, 3, 4, 5, 6);
        Due.is("21: shift before the beginning", y.shift(0), -2);
        Due.errors("21: shift before the beginning", y, 0, -1, -1, -1, -2, -3, -4);
        RepeatLearner z = Due.withSamples(4);
        z.setGreatestShift(5);
        Due.trial(z, 7, 7, 7, 7);
        Due.trial(z, 1, 2, 3, 7);
        Due.is("21: all samples beyond the end", z.shift(0), 3);
    }

    private static void promise21ShiftIsLimited() {
        for (int greatest = 0; greatest <= 5; greatest++) {
            RepeatLearner x = new RepeatLearner();
            x.setGreatestShift(greatest);
            Due.trial(x, 0, 0, 0, 0, 0, 0, 0, 1, 2, 3, 4, 5, 6, 7, 8, 9);
            Due.trial(x, 0, 0, 1, 2, 3, 4, 5, 6, 7, 8, 9, 10, 11, 12, 13, 14);
            Due.is("21: shift(0) with greatest shift " + greatest, x.shift(0), -greatest);
        }
        RepeatLearner y = Due.withSamples(8);
        Due.trial(y, 0, 0, 0, 90, 0, 0, 0, 0);
        Due.trial(y, 0, 0, 0, 0, 0, 90, 0, 0);
        Due.is("21: shift(0) at first", y.shift(0), 0);
        Due.is("21: norm(0)", y.norm(0), 90);
    }

    private static void promise22WorstSample() {
        RepeatLearner x = Due.withSamples(5);
        Due.is("22: worstSample(0) of no trial", x.worstSample(0), NONE);
        Due.is("22: worstSample(5) of no trial", x.worstSample(5), BAD);
        Due.trial(x, 3, -8, 8, -8, 7);
        Due.trial(x, 0, 0, 0, 0, 0);
        Due.trial(x, 0, 0, 5, 0, -6);
        Due.is("22: the greater absolute value", x.worstSample(0), 4);
        Due.is("22: all equal", x.worstSample(1), 0);
        Due.is("22: the lowest of several", x.worstSample(2), 1);
        Due.is("22: worstSample(3)", x.worstSample(3), NONE);
        Due.trial(x, 9, -5, -8, 0, 0);
        Due.is("22: a negative error", x.worstSample(0), 0);
        Due.trial(x, -8, 0, 0, 9, 0);
        Due.is("22: a negative error behind", x.worstSample(0), 3);
        Due.is("22: worstSample(5)", x.worstSample(5), BAD);
        Due.is("22: worstSample(-1)", x.worstSample(-1), BAD);
    }

    private static void promise23Energy() {
        RepeatLearner x = Due.withSamples(48);
        Due.is("23: energy(0) of no trial", x.energy(0), -2);
        Due.is("23: energy(5) of no trial", x.energy(5), -1);
        x.startTrial();
        for (int k = 0; k < 48; k++) {
            x.setReference(k, 1000000);
            x.record(-1000000);
        }
        Due.is("23: the greatest energy", x.energy(0), 48L * 4000000000000L);
        Due.is("20: the greatest norm", x.norm(0), 96000000);
        Due.is("24: the greatest norm", x.best(0), 96000000);
        RepeatLearner y = Due.withSamples(4);
        Due.trial(y, 1, -2, 3, -4);
        Due.trial(y, 0, 0, 0, 0);
        Due.is("23: energy(0)", y.energy(0), 0);
        Due.is("23: energy(1)", y.energy(1), 30);
        Due.is("23: energy(2)", y.energy(2), -2);
        Due.is("23: energy(5)", y.energy(5), -1);
        Due.is("23: energy(-1)", y.energy(-1), -1);
    }

    private static void promise24And25Best() {
        RepeatLearner x = Due.withSamples(4);
        Due.is("24: best(0) of no trial", x.best(0), NONE);
        Due.is("24: best(1) of no trial", x.best(1), NONE);
        Due.is("24: best(2) of no trial", x.best(2), BAD);
        Due.is("25: bestInput(0) of no trial", x.bestInput(0), NONE);
        Due.is("25: bestInput(4) of no trial", x.bestInput(4), BAD);
        x.startTrial();
        x.abort();
        Due.is("24: best(0) of an aborted trial", x.best(0), NONE);
        Due.is("25: bestInput(0) of an aborted trial", x.bestInput(0), NONE);
        x.setInput(0, 5);
        x.setInput(3, 6);
        Due.trial(x, 40, 0, 0, 0);
        Due.is("24: best(0)", x.best(0), 40);
        Due.is("24: best(1)", x.best(1), 1);
        Due.is("25: bestInput(0) is the one used", x.bestInput(0), 5);
        Due.is("25: bestInput(3)", x.bestInput(3), 6);
        x.setInput(3, 7);
        Due.trial(x, 40, 0, 0, 0);
        Due.is("24: best(1) after an equal one", x.best(1), 1);
        Due.is("25: bestInput(3) after an equal one", x.bestInput(3), 6);
        Due.trial(x, 41, 0, 0, 0);
        Due.is("24: best(0) after a worse one", x.best(0), 40);
        x.setInput(3, 8);
        Due.trial(x, 0, 0, 0, 39);
        Due.is("24: best(0) after a better one", x.best(0), 39);
        Due.is("24: best(1) after a better one", x.best(1), 4);
        Due.is("25: bestInput(3) after a better one", x.bestInput(3), 8);
        Due.is("24: best(2)", x.best(2), BAD);
        Due.is("24: best(-1)", x.best(-1), BAD);
        Due.is("25: bestInput(4)", x.bestInput(4), BAD);
        Due.is("25: bestInput(-1)", x.bestInput(-1), BAD);
    }

    private static void promise25BestInputAfterFallback() {
        RepeatLearner x = Due.withSamples(4);
        x.setGuard(true);
        x.setInput(2, 77);
        Due.trial(x, 1, 0, 0, 0);
        x.setInput(2, 78);
        Due.trial(x, 2, 0, 0, 0);
        x.setInput(2, 79);
        Due.trial(x, 2, 0, 0, 0);
        Due.is("25: input(2) after a fallback", x.input(2), 77);
        x.setInput(2, 80);
        Due.is("25: bestInput(2) is not the input", x.bestInput(2), 77);
        for (int i = 0; i < 6; i++) {
            Due.trial(x, 3, 0, 0, 0);
        }
        Due.is("24: best(0) beyond the history", x.best(0), 1);
        Due.is("24: best(1) beyond the history", x.best(1), 0);
        Due.is("25: bestInput(2) beyond the history", x.bestInput(2), 77);
    }
}
