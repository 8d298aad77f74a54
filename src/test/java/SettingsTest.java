/** Promises 1 to 10: a new object, reset and the settings. */
public final class SettingsTest {
    private static final int BAD = RepeatLearner.BAD_VALUE;
    private static final int NONE = RepeatLearner.NONE;

    public static void main(String[] args) {
        promise1NewObject();
        promise2Reset();
        promise2ResetForgetsEverything();
        promise2ResetForgetsLongRows();
        promise2ResetForgetsBadTrials();
        promise2ShorterTrialsAfterLongOnes();
        promise3SetReference();
        promise4SetGain();
        promise4GainAndLeadCorrect();
        promise5SetSmoothing();
        promise5SmoothingCorrects();
        promise6SetLimits();
        promise6LimitAndBlendCorrect();
        promise7SetGreatestShift();
        promise8SetTolerance();
        promise9SetGuard();
        promise10Setting();
        Due.finish();
    }

    private static void settingsAre(String what, RepeatLearner x, int... wanted) {
        for (int i = 0; i < wanted.length; i++) {
            Due.is(what + ": setting(" + i + ")", x.setting(i), wanted[i]);
        }
    }

    /** Looks at everything that can be seen of an object on which nothing has been done. */
    private static void isAsAtFirst(String what, RepeatLearner x, int samples) {
        settingsAre(what, x, samples, 500, 0, 0, 1, 1000000, 4, 0, 10, 2, 0);
        for (int k = 0; k < samples; k++) {
            Due.is(what + ": reference(" + k + ")", x.reference(k), 0);
            Due.is(what + ": input(" + k + ")", x.input(k), 0);
            Due.is(what + ": bestInput(" + k + ")", x.bestInput(k), NONE);
            Due.is(what + ": state(" + k + ")", x.state(k), 0);
        }
        for (int i = 0; i < 5; i++) {
            Due.is(what + ": count(" + i + ")", x.count(i), 0);
            Due.is(what + ": error(0, " + i + ")", x.error(0, i), NONE);
            Due.is(what + ": norm(" + i + ")", x.norm(i), NONE);
            Due.is(what + ": shift(" + i + ")", x.shift(i), NONE);
            Due.is(what + ": worstSample(" + i + ")", x.worstSample(i), NONE);
            Due.is(what + ": energy(" + i + ")", x.energy(i), -2);
        }
        Due.is(what + ": best(0)", x.best(0), NONE);
        Due.is(what + ": best(1)", x.best(1), NONE);
        Due.is(what + ": convergedCount()", x.convergedCount(), 0);
        Due.is(what + ": position()", x.position(), RepeatLearner.NOT_RUNNING);
        for (int i = 0; i < 6; i++) {
            Due.is(what + ": setPlant(" + i + ", 1)", x.setPlant(i, 1), i == 0 ? 1000 : 0);
        }
        Due.is(what + ": setDisturbance(1, 1)", x.setDisturbance(1, 1), 0);
        Due.is(what + ": startTrial()", x.startTrial(), 0);
        Due.is(what + ": position()", x.position(), 0);
    }

    private static void promise1NewObject() {
        isAsAtFirst("1", new RepeatLearner(), 16);
        RepeatLearner x = new RepeatLearner();
        Due.is("1: input(15)", x.input(15), 0);
        Due.is("1: input(16)", x.input(16), BAD);
        Due.is("1: suits()", x.suits(), 1);
        Due.is("1: simulate(20)", x.simulate(20), 0);
        RepeatLearner other = new RepeatLearner();
        x.setReference(0, 5);
        Due.is("1: reference(0) of another object", other.reference(0), 0);
        Due.is("1: count(0) of another object", other.count(0), 0);
    }

    private static void promise2Reset() {
        RepeatLearner x = new RepeatLearner();
        Due.is("2: reset(48)", x.reset(48), 16);
        Due.is("2: reset(4)", x.reset(4), 48);
        Due.is("2: reset(4)", x.reset(4), 4);
        for (int bad : new int[] {3, 49, 0, -4, Integer.MIN_VALUE, Integer.MAX_VALUE}) {
            Due.is("2: reset(" + bad + ")", x.reset(bad), BAD);
        }
        Due.is("2: setting(0)", x.setting(0), 4);
    }

    private static void promise2ResetForgetsEverything() {
        RepeatLearner x = Due.withSamples(4);
        x.setReference(1, 7000);
        x.setInput(2, 9);
        x.setGain(7, 1);
        x.setSmoothing(3, 2);
        x.setLimits(500, 6);
        x.setGreatestShift(3);
        x.setTolerance(1, 1);
        x.setGuard(true);
        for (int i = 0; i < 6; i++) {
            x.setPlant(i, -3000 + i);
        }
        x.setDisturbance(9, 1);
        x.simulate(20);
        x.setTolerance(1000000, 5);
        Due.is("2: convergedCount()", x.convergedCount(), 4);
        x.startTrial();
        x.abort();
        x.startTrial();
        x.record(1);
        Due.is("2: reset(5)", x.reset(5), 4);
        isAsAtFirst("2", x, 5);
    }

    private static void promise2ResetForgetsLongRows() {
        RepeatLearner x = Due.withSamples(48);
        x.setReference(47, 5);
        x.setInput(47, 6);
        x.reset(4);
        Due.is("2: reference(47)", x.reference(47), BAD);
        x.reset(48);
        Due.is("2: reference(47)", x.reference(47), 0);
        Due.is("2: input(47)", x.input(47), 0);
    }

    private static void promise2ResetForgetsBadTrials() {
        RepeatLearner x = Due.withSamples(4);
        Due.trial(x, 1, 0, 0, 0);
        Due.trial(x, 2, 0, 0, 0);
        Due.is("2: count(4)", x.count(4), 1);
        x.reset(4);
        Due.is("2: count(4) after reset", x.count(4), 0);
        x.setGuard(true);
        Due.trial(x, 5, 0, 0, 0);
        Due.is("2: best(0) is the first one again", x.best(0), 5);
        Due.trial(x, 6, 0, 0, 0);
        Due.is("2: count(3) after one bad trial", x.count(3), 0);
    }

    /** What a longer trial left behind its end must not be learned from. */
    private static void promise2ShorterTrialsAfterLongOnes() {
        RepeatLearner x = Due.withSamples(10);
        Due.trial(x, 900, 900, 900, 900, 900, 900, 900, 900, 900, 900);
        Due.trial(x, 900, 900, 900, 900, 900, 900, 900, 900, 900);
        x.abort();
        x.reset(5);
        x.setGain(1000, 2);
        x.setGreatestShift(5);
        Due.trial(x, 1, 2, 3, 4, 5);
        Due.inputs("2: a complete trial", x, -3, -4, -5, 0, 0);
        Due.is("2: worstSample(0)", x.worstSample(0), 4);
        Due.is("2: energy(0)", x.energy(0), 55);
        Due.is("2: norm(0)", x.norm(0), 15);
        Due.trial(x, 0, 0, 1, 0);
        x.abort();
        Due.inputs("2: an aborted trial", x, -4, -4, -5, 0, 0);
        Due.trial(x, 2, 3, 4, 5, 5);
        Due.is("2: shift(0)", x.shift(0), -1);
    }

    private static void promise3SetReference() {
        RepeatLearner x = Due.withSamples(4);
        Due.is("3: setReference(0, 1000000)", x.setReference(0, 1000000), 0);
        Due.is("3: setReference(0, -1000000)", x.setReference(0, -1000000), 1000000);
        Due.is("3: setReference(3, 8)", x.setReference(3, 8), 0);
        Due.is("3: setReference(3, 1000001)", x.setReference(3, 1000001), BAD);
        Due.is("3: setReference(3, -1000001)", x.setReference(3, -1000001), BAD);
        Due.is("3: setReference(4, 8)", x.setReference(4, 8), BAD);
        Due.is("3: setReference(-1, 8)", x.setReference(-1, 8), BAD);
        Due.is("3: reference(0)", x.reference(0), -1000000);
        Due.is("3: reference(3)", x.reference(3), 8);
        Due.is("3: startTrial()", x.startTrial(), 0);
        x.record(0);
        x.record(0);
        x.record(0);
        Due.is("3: setReference(0, 10) in a trial", x.setReference(0, 10), -1000000);
        Due.is("3: record(0)", x.record(0), NONE);
        Due.errors("3: by the present references", x, 0, 10, 0, 0, 8);
        Due.is("3: setReference(0, 99)", x.setReference(0, 99), 10);
        Due.is("3: error(0, 0) stays", x.error(0, 0), 10);
    }

    private static void promise4SetGain() {
        RepeatLearner x = new RepeatLearner();
        Due.is("4: setGain(500, 0)", x.setGain(500, 0), 0);
        Due.is("4: setGain(501, 0)", x.setGain(501, 0), 1);
        Due.is("4: setGain(501, 1)", x.setGain(501, 1), 1);
        Due.is("4: setGain(501, 1)", x.setGain(501, 1), 0);
        Due.is("4: setGain(2001, 2)", x.setGain(2001, 2), BAD);
        Due.is("4: setGain(-1, 2)", x.setGain(-1, 2), BAD);
        Due.is("4: setGain(0, 9)", x.setGain(0, 9), BAD);
        Due.is("4: setGain(0, -1)", x.setGain(0, -1), BAD);
        settingsAre("4", x, 16, 501, 1);
        Due.is("4: setGain(2000, 8)", x.setGain(2000, 8), 1);
        settingsAre("4", x, 16, 2000, 8);
        Due.is("4: setGain(0, 0)", x.setGain(0, 0), 1);
        settingsAre("4", x, 16, 0, 0);
    }

    private static void promise4GainAndLeadCorrect() {
        RepeatLearner x = Due.withSamples(10);
        x.setGain(333, 0);
        x.setReference(0, 100);
        x.setReference(1, -100);
        x.setReference(9, 1);
        x.simulate(1);
        Due.inputs("4: gain 333", x, 33, -34, 0, 0, 0, 0, 0, 0, 0, 0);
        RepeatLearner y = Due.withSamples(10);
        y.setGain(1000, 8);
        y.setReference(7, 70);
        y.setReference(8, 80);
        y.setReference(9, 90);
        y.simulate(1);
        Due.inputs("4: lead 8", y, 80, 90, 0, 0, 0, 0, 0, 0, 0, 0);
        RepeatLearner w = Due.withSamples(48);
        w.setGain(1000, 8);
        w.setReference(47, 5);
        w.simulate(1);
        Due.is("4: lead 8 of 48 samples: input(39)", w.input(39), 5);
        Due.is("4: lead 8 of 48 samples: input(40)", w.input(40), 0);
        Due.is("4: lead 8 of 48 samples: input(47)", w.input(47), 0);
        RepeatLearner z = Due.withSamples(4);
        z.setGain(2000, 8);
        z.setReference(3, 70);
        z.setInput(3, 9);
        z.simulate(1);
        Due.inputs("4: a lead beyond the trial", z, 0, 0, 0, 9);
        z.setGain(2000, 0);
        z.setPlant(0, 0);
        z.setReference(0, 1000000);
        z.setReference(1, -1000000);
        Due.trial(z, -1000000, 1000000, 0, 0);
        Due.inputs("4: the greatest errors", z, 1000000, -1000000, 0, 149);
    }

    private static void promise5SetSmoothing() {
        RepeatLearner x = new RepeatLearner();
        Due.is("5: setSmoothing(0, 1)", x.setSmoothing(0, 1), 0);
        Due.is("5: setSmoothing(1, 1)", x.setSmoothing(1, 1), 1);
        Due.is("5: setSmoothing(1, 2)", x.setSmoothing(1, 2), 1);
        Due.is("5: setSmoothing(334, 3)", x.setSmoothing(334, 3), BAD);
        Due.is("5: setSmoothing(-1, 3)", x.setSmoothing(-1, 3), BAD);
        Due.is("5: setSmoothing(2, 5)", x.setSmoothing(2, 5), BAD);
        Due.is("5: setSmoothing(2, -1)", x.setSmoothing(2, -1), BAD);
        Due.is("5: setting(3)", x.setting(3), 1);
        Due.is("5: setting(4)", x.setting(4), 2);
        Due.is("5: setSmoothing(333, 4)", x.setSmoothing(333, 4), 1);
        Due.is("5: setSmoothing(333, 4)", x.setSmoothing(333, 4), 0);
        Due.is("5: setSmoothing(0, 0)", x.setSmoothing(0, 0), 1);
        Due.is("5: setting(3)", x.setting(3), 0);
        Due.is("5: setting(4)", x.setting(4), 0);
    }

    private static void promise5SmoothingCorrects() {
        RepeatLearner x = Due.withSamples(4);
        x.setGain(0, 0);
        x.setInput(1, 1000);
        x.setSmoothing(333, 1);
        x.simulate(1);
        Due.inputs("5: one pass", x, 333, 334, 333, 0);
        x.setSmoothing(333, 2);
        x.simulate(1);
        Due.inputs("5: two passes", x, 333, 296, 221, 147);
        x.setSmoothing(333, 0);
        x.simulate(1);
        Due.inputs("5: no pass", x, 333, 296, 221, 147);
        RepeatLearner y = Due.withSamples(4);
        y.setGain(0, 0);
        y.setSmoothing(1, 1);
        y.setInput(0, -1);
        y.simulate(1);
        Due.inputs("5: divisions round down", y, -1, -1, 0, 0);
        RepeatLearner z = Due.withSamples(4);
        z.setGain(0, 0);
        z.setSmoothing(250, 1);
        z.setInput(3, 1000000);
        z.simulate(1);
        Due.inputs("5: the last one stands for its neighbour", z, 0, 0, 250000, 750000);
        RepeatLearner w = Due.withSamples(4);
        w.setGain(1000, 0);
        w.setSmoothing(250, 1);
        w.setLimits(100, 4);
        w.setReference(0, 400);
        w.setReference(1, 40);
        w.simulate(1);
        Due.inputs("5: corrected, then smoothed, then limited", w, 100, 100, 10, 0);
    }

    private static void promise6SetLimits() {
        RepeatLearner x = new RepeatLearner();
        Due.is("6: setLimits(1000000, 4)", x.setLimits(1000000, 4), 0);
        Due.is("6: setLimits(999999, 4)", x.setLimits(999999, 4), 1);
        Due.is("6: setLimits(999999, 5)", x.setLimits(999999, 5), 1);
        Due.is("6: setLimits(0, 6)", x.setLimits(0, 6), BAD);
        Due.is("6: setLimits(1000001, 6)", x.setLimits(1000001, 6), BAD);
        Due.is("6: setLimits(7, 0)", x.setLimits(7, 0), BAD);
        Due.is("6: setLimits(7, 11)", x.setLimits(7, 11), BAD);
        Due.is("6: setting(5)", x.setting(5), 999999);
        Due.is("6: setting(6)", x.setting(6), 5);
        Due.is("6: setLimits(1, 10)", x.setLimits(1, 10), 1);
        Due.is("6: setLimits(1, 10)", x.setLimits(1, 10), 0);
        Due.is("6: setLimits(1000000, 1)", x.setLimits(1000000, 1), 1);
        Due.is("6: setting(5)", x.setting(5), 1000000);
        Due.is("6: setting(6)", x.setting(6), 1);
    }

    private static void promise6LimitAndBlendCorrect() {
        RepeatLearner x = Due.withSamples(4);
        x.setGain(0, 0);
        x.setInput(0, 500);
        x.setInput(1, -500);
        x.setInput(2, 100);
        x.setInput(3, -101);
        x.setLimits(100, 4);
        Due.inputs("6: until the next correction", x, 500, -500, 100, -101);
        x.startTrial();
        x.abort();
        Due.inputs("6: nothing recorded is no correction", x, 500, -500, 100, -101);
        x.simulate(1);
        Due.inputs("6: at the next correction", x, 100, -100, 100, -100);
        RepeatLearner y = new RepeatLearner();
        y.setGain(1000, 0);
        y.setLimits(1000000, 10);
        for (int k = 0; k < 16; k++) {
            y.setReference(k, 1000);
        }
        Due.trial(y, 0, 0, 0, 0, 0, 0, 0, 0, 0, 0, 0, 0);
        Due.is("6: abort()", y.abort(), 12);
        Due.inputs("6: blend 10", y, 1000, 1000, 1000, 900, 800, 700, 600, 500, 400, 300, 200, 100, 0, 0, 0, 0);
        RepeatLearner z = Due.withSamples(4);
        z.setGain(1000, 0);
        z.setLimits(1000000, 1);
        z.setReference(0, 10);
        z.setReference(2, 30);
        Due.trial(z, 0, 0, 0);
        z.abort();
        Due.inputs("6: blend 1", z, 10, 0, 30, 0);
    }

    private static void promise7SetGreatestShift() {
        RepeatLearner x = new RepeatLearner();
        Due.is("7: setGreatestShift(5)", x.setGreatestShift(5), 0);
        Due.is("7: setGreatestShift(6)", x.setGreatestShift(6), BAD);
        Due.is("7: setGreatestShift(-1)", x.setGreatestShift(-1), BAD);
        Due.is("7: setting(7)", x.setting(7), 5);
        Due.is("7: setGreatestShift(2)", x.setGreatestShift(2), 5);
        Due.is("7: setGreatestShift(0)", x.setGreatestShift(0), 2);
        Due.is("7: setting(7)", x.setting(7), 0);
    }

    private static void promise8SetTolerance() {
        RepeatLearner x = new RepeatLearner();
        Due.is("8: setTolerance(10, 2)", x.setTolerance(10, 2), 0);
        Due.is("8: setTolerance(11, 2)", x.setTolerance(11, 2), 1);
        Due.is("8: setTolerance(11, 3)", x.setTolerance(11, 3), 1);
        Due.is("8: setTolerance(-1, 1)", x.setTolerance(-1, 1), BAD);
        Due.is("8: setTolerance(1000001, 1)", x.setTolerance(1000001, 1), BAD);
        Due.is("8: setTolerance(1, 0)", x.setTolerance(1, 0), BAD);
        Due.is("8: setTolerance(1, 6)", x.setTolerance(1, 6), BAD);
        Due.is("8: setting(8)", x.setting(8), 11);
        Due.is("8: setting(9)", x.setting(9), 3);
        Due.is("8: setTolerance(1000000, 5)", x.setTolerance(1000000, 5), 1);
        Due.is("8: setTolerance(1000000, 5)", x.setTolerance(1000000, 5), 0);
        Due.is("8: setTolerance(0, 1)", x.setTolerance(0, 1), 1);
        Due.is("8: setting(8)", x.setting(8), 0);
        Due.is("8: setting(9)", x.setting(9), 1);
    }

    private static void promise9SetGuard() {
        RepeatLearner x = new RepeatLearner();
        Due.is("9: setGuard(false)", x.setGuard(false), 0);
        Due.is("9: setGuard(true)", x.setGuard(true), 1);
        Due.is("9: setGuard(true)", x.setGuard(true), 0);
        Due.is("9: setting(10)", x.setting(10), 1);
        Due.is("9: setGuard(false)", x.setGuard(false), 1);
        Due.is("9: setting(10)", x.setting(10), 0);
    }

    private static void promise10Setting() {
        RepeatLearner x = Due.withSamples(7);
        x.setGain(1, 2);
        x.setSmoothing(3, 4);
        x.setLimits(5, 6);
        x.setGreatestShift(1);
        x.setTolerance(8, 5);
        x.setGuard(true);
        settingsAre("10", x, 7, 1, 2, 3, 4, 5, 6, 1, 8, 5, 1);
        for (int bad : new int[] {-1, 11, Integer.MIN_VALUE, Integer.MAX_VALUE}) {
            Due.is("10: setting(" + bad + ")", x.setting(bad), BAD);
        }
    }
}
