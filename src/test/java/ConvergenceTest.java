/** Promises 26 and 27: the states of the samples. */
public final class ConvergenceTest {
    private static final int BAD = RepeatLearner.BAD_VALUE;

    public static void main(String[] args) {
        promise26StatesOfTwoTrials();
        promise26HoldAndTolerance();
        promise26WrongSamples();
        promise27ConvergedCount();
        Due.finish();
    }

    private static void statesAre(String what, RepeatLearner x, int... wanted) {
        int converged = 0;
        for (int k = 0; k < wanted.length; k++) {
            Due.is(what + ": state(" + k + ")", x.state(k), wanted[k]);
            converged += wanted[k] == 1 ? 1 : 0;
        }
        Due.is(what + ": convergedCount()", x.convergedCount(), converged);
    }

    private static void promise26StatesOfTwoTrials() {
        RepeatLearner x = Due.withSamples(5);
        statesAre("26: no trial", x, 0, 0, 0, 0, 0);
        Due.trial(x, 0, 0);
        x.abort();
        statesAre("26: an aborted trial", x, 0, 0, 0, 0, 0);
        Due.trial(x, 0, 10, -11, 20, 30);
        statesAre("26: fewer trials than hold", x, 3, 3, 3, 3, 3);
        Due.trial(x, 10, -10, 10, -20, -31);
        statesAre("26: two trials", x, 1, 1, 3, 3, 2);
        Due.trial(x, 11, 0, -10, 21, 30);
        statesAre("26: three trials", x, 2, 1, 1, 2, 3);
    }

    private static void promise26HoldAndTolerance() {
        RepeatLearner x = Due.withSamples(4);
        x.setTolerance(0, 1);
        Due.trial(x, 0, 1, -1, 1000000);
        statesAre("26: hold 1", x, 1, 3, 3, 3);
        x.setTolerance(1000000, 1);
        statesAre("26: tolerance 1000000", x, 1, 1, 1, 1);
        x.setTolerance(1, 5);
        for (int t = 0; t < 3; t++) {
            Due.trial(x, 0, 1, -1, 1);
            statesAre("26: hold 5 and too few trials", x, 3, 3, 3, 3);
        }
        Due.trial(x, 0, 1, -1, 1);
        statesAre("26: hold 5", x, 1, 1, 1, 3);
        Due.trial(x, 2, 1, -1, 1);
        statesAre("26: hold 5 with one error", x, 2, 1, 1, 1);
        for (int t = 0; t < 4; t++) {
            Due.trial(x, 0, 1, -1, 1);
            statesAre("26: the error is one of the latest 5", x, 3, 1, 1, 1);
        }
        x.setTolerance(1, 4);
        statesAre("26: hold 4", x, 1, 1, 1, 1);
        x.setTolerance(1, 5);
        Due.trial(x, 0, 1, -1, 1);
        statesAre("26: the error is forgotten", x, 1, 1, 1, 1);
        x.setTolerance(0, 5);
        statesAre("26: tolerance 0", x, 1, 3, 3, 3);
    }

    private static void promise26WrongSamples() {
        RepeatLearner x = Due.withSamples(4);
        for (int bad : new int[] {-1, 4, Integer.MIN_VALUE, Integer.MAX_VALUE}) {
            Due.is("26: state(" + bad + ") of no trial", x.state(bad), BAD);
        }
        x.simulate(2);
        for (int bad : new int[] {-1, 4, Integer.MIN_VALUE, Integer.MAX_VALUE}) {
            Due.is("26: state(" + bad + ")", x.state(bad), BAD);
        }
    }

    private static void promise27ConvergedCount() {
        RepeatLearner x = Due.withSamples(48);
        Due.is("27: convergedCount() at first", x.convergedCount(), 0);
        x.simulate(1);
        Due.is("27: convergedCount() of one trial", x.convergedCount(), 0);
        x.simulate(1);
        Due.is("27: convergedCount() of two trials", x.convergedCount(), 48);
        x.setReference(47, 11);
        x.setGain(0, 0);
        x.simulate(1);
        Due.is("27: convergedCount() with an error", x.convergedCount(), 47);
        x.setTolerance(11, 2);
        Due.is("27: convergedCount() with tolerance 11", x.convergedCount(), 48);
        x.reset(4);
        Due.is("27: convergedCount() after reset", x.convergedCount(), 0);
    }
}
