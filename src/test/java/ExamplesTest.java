/** The three examples of the document, call by call. */
public final class ExamplesTest {
    public static void main(String[] args) {
        twoSimulatedTrials();
        anAbortedTrial();
        aFallback();
        Due.finish();
    }

    private static void twoSimulatedTrials() {
        RepeatLearner x = new RepeatLearner();
        Due.is("1: reset(4)", x.reset(4), 16);
        Due.is("1: setReference(0, 100)", x.setReference(0, 100), 0);
        Due.is("1: setReference(1, 200)", x.setReference(1, 200), 0);
        Due.is("1: setReference(2, 300)", x.setReference(2, 300), 0);
        Due.is("1: setReference(3, 400)", x.setReference(3, 400), 0);
        Due.is("1: simulate(1)", x.simulate(1), 1000);
        Due.is("1: input(3)", x.input(3), 200);
        Due.is("1: simulate(1)", x.simulate(1), 500);
        Due.is("1: norm(0)", x.norm(0), 500);
        Due.is("1: norm(1)", x.norm(1), 1000);
        Due.is("1: error(3, 0)", x.error(3, 0), 200);
        Due.is("1: energy(0)", x.energy(0), 75000);
        Due.is("1: worstSample(1)", x.worstSample(1), 3);
        Due.is("1: best(0)", x.best(0), 500);
        Due.is("1: state(0)", x.state(0), 3);
        Due.is("1: suits()", x.suits(), 1);
    }

    private static void anAbortedTrial() {
        RepeatLearner x = new RepeatLearner();
        Due.is("2: reset(5)", x.reset(5), 16);
        Due.is("2: setReference(2, 1000)", x.setReference(2, 1000), 0);
        Due.is("2: startTrial()", x.startTrial(), 0);
        Due.is("2: record(0)", x.record(0), 0);
        Due.is("2: record(0)", x.record(0), 0);
        Due.is("2: record(200)", x.record(200), 0);
        Due.is("2: position()", x.position(), 3);
        Due.is("2: abort()", x.abort(), 3);
        Due.is("2: input(2)", x.input(2), 100);
        Due.is("2: input(3)", x.input(3), 0);
        Due.is("2: count(2)", x.count(2), 1);
        Due.is("2: startTrial()", x.startTrial(), 1);
        Due.is("2: startTrial()", x.startTrial(), -2000000002);
        Due.is("2: setInput(0, 5)", x.setInput(0, 5), -2000000002);
        Due.is("2: record(1000001)", x.record(1000001), -2000000001);
        Due.is("2: abort()", x.abort(), 0);
    }

    private static void aFallback() {
        RepeatLearner x = new RepeatLearner();
        Due.is("3: reset(4)", x.reset(4), 16);
        Due.is("3: setGuard(true)", x.setGuard(true), 1);
        Due.is("3: setGain(2000, 0)", x.setGain(2000, 0), 1);
        Due.is("3: setReference(1, 50)", x.setReference(1, 50), 0);
        Due.is("3: simulate(1)", x.simulate(1), 50);
        Due.is("3: setPlant(0, -1000)", x.setPlant(0, -1000), 1000);
        Due.is("3: simulate(2)", x.simulate(2), 450);
        Due.is("3: count(3)", x.count(3), 1);
        Due.is("3: setting(1)", x.setting(1), 1000);
        Due.is("3: input(1)", x.input(1), 0);
        Due.is("3: bestInput(1)", x.bestInput(1), 0);
        Due.is("3: best(1)", x.best(1), 0);
        Due.is("3: convergedCount()", x.convergedCount(), 3);
        Due.is("3: setSmoothing(334, 0)", x.setSmoothing(334, 0), -2000000001);
        Due.is("3: shift(0)", x.shift(0), 0);
        Due.is("3: error(4, 0)", x.error(4, 0), -2000000001);
    }
}
