/** Promises 28 to 31: the plant, its disturbance, simulated trials, and whether the gain suits. */
public final class PlantTest {
    private static final int BAD = RepeatLearner.BAD_VALUE;
    private static final int RUNNING = RepeatLearner.RUNNING;

    public static void main(String[] args) {
        promise28SetPlant();
        promise28PlantOutputs();
        promise29SetDisturbance();
        promise29DisturbedOutputs();
        promise30Simulate();
        promise30SimulateIsLikeRecord();
        promise30OutputsAreLimited();
        promise31Suits();
        promise31SuitsWithLead();
        Due.finish();
    }

    private static void promise28SetPlant() {
        RepeatLearner x = new RepeatLearner();
        for (int i = 0; i < 6; i++) {
            Due.is("28: setPlant(" + i + ", 3000)", x.setPlant(i, 3000), i == 0 ? 1000 : 0);
            Due.is("28: setPlant(" + i + ", -3000)", x.setPlant(i, -3000), 3000);
            Due.is("28: setPlant(" + i + ", 3001)", x.setPlant(i, 3001), BAD);
            Due.is("28: setPlant(" + i + ", -3001)", x.setPlant(i, -3001), BAD);
        }
        for (int i = 0; i < 6; i++) {
            Due.is("28: setPlant(" + i + ", " + i + ")", x.setPlant(i, i), -3000);
        }
        for (int bad : new int[] {-1, 6, Integer.MIN_VALUE, Integer.MAX_VALUE}) {
            Due.is("28: setPlant(" + bad + ", 0)", x.setPlant(bad, 0), BAD);
        }
        x.startTrial();
        Due.is("28: setPlant(5, 1) in a trial", x.setPlant(5, 1), 5);
    }

    private static void promise28PlantOutputs() {
        RepeatLearner x = Due.withSamples(8);
        x.setGain(0, 0);
        x.setInput(0, 1000);
        for (int i = 0; i < 6; i++) {
            x.setPlant(i, 100 * (i + 1));
        }
        x.simulate(1);
        Due.errors("28: one input", x, 0, -100, -200, -300, -400, -500, -600, 0, 0);
        x.setInput(3, -500);
        x.simulate(1);
        Due.errors("28: two inputs", x, 0, -100, -200, -300, -350, -400, -450, 200, 250);
        RepeatLearner y = Due.withSamples(4);
        y.setGain(0, 0);
        y.setPlant(0, 1);
        y.setPlant(1, 1);
        y.setInput(0, -1);
        y.setInput(1, 999);
        y.simulate(1);
        Due.errors("28: divided once, rounded down", y, 0, 1, 0, 0, 0);
    }

    private static void promise29SetDisturbance() {
        RepeatLearner x = new RepeatLearner();
        Due.is("29: setDisturbance(1000, 1)", x.setDisturbance(1000, Integer.MIN_VALUE), 0);
        Due.is("29: setDisturbance(1001, 1)", x.setDisturbance(1001, 1), BAD);
        Due.is("29: setDisturbance(-1, 1)", x.setDisturbance(-1, 1), BAD);
        Due.is("29: setDisturbance(5, 1)", x.setDisturbance(5, Integer.MAX_VALUE), 1000);
        Due.is("29: setDisturbance(0, 0)", x.setDisturbance(0, 0), 5);
        Due.is("29: setDisturbance(0, 0)", x.setDisturbance(0, 0), 0);
    }

    private static void promise29DisturbedOutputs() {
        RepeatLearner x = Due.withSamples(6);
        x.setGain(0, 0);
        x.setDisturbance(10, 0);
        x.simulate(1);
        Due.errors("29: seed 0", x, 0, 10, -4, 10, -2, -2, 1);
        x.setDisturbance(1000, -7);
        x.simulate(1);
        Due.errors("29: seed -7", x, 0, -198, -113, -103, -549, -982, -225);
        x.setDisturbance(0, 99);
        x.simulate(1);
        Due.errors("29: amplitude 0", x, 0, 0, 0, 0, 0, 0, 0);
        RepeatLearner y = Due.withSamples(4);
        y.setGain(0, 0);
        y.setDisturbance(1, 42);
        y.simulate(1);
        Due.errors("29: seed 42", y, 0, 1, 0, 0, -1);
        Due.is("29: a wrong amplitude leaves the seed", y.setDisturbance(1001, 42), BAD);
        y.simulate(1);
        Due.errors("29: the seed goes on", y, 0, 0, 1, -1, 1);
    }

    private static void promise30Simulate() {
        RepeatLearner x = Due.withSamples(4);
        x.setReference(2, 1024);
        Due.is("30: simulate(1)", x.simulate(1), 1024);
        Due.is("30: simulate(3)", x.simulate(3), 128);
        Due.is("30: count(0)", x.count(0), 4);
        Due.is("30: simulate(20)", x.simulate(20), 1);
        Due.is("30: count(1)", x.count(1), 24);
        Due.is("30: best(1)", x.best(1), 10);
        for (int bad : new int[] {0, 21, -1, Integer.MIN_VALUE, Integer.MAX_VALUE}) {
            Due.is("30: simulate(" + bad + ")", x.simulate(bad), BAD);
        }
        x.startTrial();
        Due.is("30: simulate(1) in a trial", x.simulate(1), RUNNING);
        Due.is("30: simulate(0) in a trial", x.simulate(0), BAD);
        Due.is("30: simulate(21) in a trial", x.simulate(21), BAD);
        Due.is("30: position()", x.position(), 0);
        Due.is("30: count(0)", x.count(0), 25);
    }

    private static void promise30SimulateIsLikeRecord() {
        RepeatLearner x = Due.withSamples(4);
        RepeatLearner y = Due.withSamples(4);
        for (RepeatLearner each : new RepeatLearner[] {x, y}) {
            each.setReference(0, 100);
            each.setReference(2, -300);
            each.setPlant(1, 500);
        }
        Due.is("30: simulate(2)", x.simulate(2), 300);
        Due.trial(y, 0, 0, 0, 0);
        Due.trial(y, 50, 25, -150, -75);
        for (int k = 0; k < 4; k++) {
            Due.is("30: input(" + k + ")", x.input(k), y.input(k));
            Due.is("30: error(" + k + ", 0)", x.error(k, 0), y.error(k, 0));
        }
        Due.is("30: norm(0)", y.norm(0), 300);
    }

    private static void promise30OutputsAreLimited() {
        RepeatLearner x = Due.withSamples(4);
        x.setGain(0, 0);
        x.setPlant(0, 3000);
        x.setInput(0, 1000000);
        x.setInput(1, -1000000);
        x.setInput(2, 333333);
        x.setInput(3, -333334);
        x.simulate(1);
        Due.errors("30: limited outputs", x, 0, -1000000, 1000000, -999999, 1000000);
        RepeatLearner y = Due.withSamples(4);
        y.setGain(0, 0);
        y.setDisturbance(5, 5);
        y.setInput(0, 1000000);
        y.setInput(1, -1000000);
        y.setInput(2, 1000000);
        y.simulate(1);
        Due.errors("30: limited with the disturbance", y, 0, -1000000, 999997, -999996, -5);
        RepeatLearner z = Due.withSamples(6);
        z.setGain(0, 0);
        for (int k = 0; k < 6; k++) {
            z.setPlant(k, 3000);
            z.setInput(k, -1000000);
        }
        Due.is("30: the greatest sums", z.simulate(1), 6000000);
    }

    private static void promise31Suits() {
        RepeatLearner x = new RepeatLearner();
        x.setGain(2000, 0);
        Due.is("31: |1000000 - 2000 * 1000|", x.suits(), 1);
        x.setPlant(0, 1001);
        Due.is("31: |1000000 - 2000 * 1001|", x.suits(), 0);
        x.setPlant(0, 0);
        Due.is("31: |1000000 - 0|", x.suits(), 1);
        x.setPlant(0, -1);
        Due.is("31: a negative coefficient", x.suits(), 0);
        x.setGain(1000, 0);
        x.setPlant(0, 1000);
        for (int i = 1; i < 6; i++) {
            x.setPlant(i, i % 2 == 0 ? 200 : -200);
        }
        Due.is("31: a sum of 1000000", x.suits(), 1);
        for (int i = 1; i < 6; i++) {
            int previous = x.setPlant(i, i % 2 == 0 ? 201 : -201);
            Due.is("31: a sum of 1001000", x.suits(), 0);
            x.setPlant(i, previous);
        }
        x.setGain(0, 0);
        Due.is("31: gain 0", x.suits(), 1);
        RepeatLearner y = new RepeatLearner();
        y.setGain(1, 0);
        y.setPlant(0, 7);
        y.setPlant(5, -7);
        Due.is("31: a sum of 1000000", y.suits(), 1);
        y.setPlant(1, 1);
        Due.is("31: a sum of 1000001", y.suits(), 0);
        x.setGain(2000, 0);
        for (int i = 0; i < 6; i++) {
            x.setPlant(i, -3000);
        }
        Due.is("31: the greatest sum", x.suits(), 0);
    }

    private static void promise31SuitsWithLead() {
        for (int lead = 1; lead <= 5; lead++) {
            RepeatLearner x = new RepeatLearner();
            x.setGain(500, lead);
            Due.is("31: c(0) is one of the others", x.suits(), 0);
            x.setPlant(lead, 1000);
            Due.is("31: |1000000 - 500000| + 500000", x.suits(), 1);
            x.setPlant(0, 1001);
            Due.is("31: |1000000 - 500000| + 500500", x.suits(), 0);
        }
        for (int lead = 6; lead <= 8; lead++) {
            RepeatLearner x = new RepeatLearner();
            x.setGain(500, lead);
            Due.is("31: lead " + lead, x.suits(), 0);
            x.setPlant(0, 0);
            Due.is("31: lead " + lead + " and no coefficient", x.suits(), 1);
            x.setPlant(5, 1);
            Due.is("31: lead " + lead + " and c(5)", x.suits(), 0);
            x.setGain(0, lead);
            Due.is("31: lead " + lead + " and gain 0", x.suits(), 1);
        }
    }
}
