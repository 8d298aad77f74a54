/** The edges of the plant: its first samples, rounding, the seed, limited outputs, and whether the gain suits. */
public final class PlantEdgesTest {
    private static final int LOW = Integer.MIN_VALUE;
    private static final int HIGH = Integer.MAX_VALUE;

    public static void main(String[] args) {
        plantAtFirst();
        firstSamplesHaveFewerInputs();
        inputsOfSixSamplesAgo();
        outputsRoundDown();
        theGreatestSums();
        seedsOverflow();
        seedsAtTheEndsOfTheModulo();
        amplitudeZero();
        amplitudesAtTheEnds();
        seedsGoOn();
        seedsGoOnOnlyWithOutputs();
        resetForgetsTheSeed();
        outputsAreLimitedWithTheDisturbance();
        simulatedTrialsAreWholeTrials();
        coefficientsBeyondThePlant();
        suitsAtTheEdge();
        suitsAboveAndBelowOne();
        Due.finish();
    }

    /** The inputs stay as they are and the references are 0, so that the errors are the outputs, negative. */
    private static RepeatLearner watched(int samples) {
        RepeatLearner x = Due.withSamples(samples);
        x.setGain(0, 0);
        return x;
    }

    private static void outputsAre(String what, RepeatLearner x, int... wanted) {
        x.simulate(1);
        for (int k = 0; k < wanted.length; k++) {
            Due.is(what + ": error(" + k + ", 0)", x.error(k, 0), -wanted[k]);
        }
    }

    private static void plantAtFirst() {
        RepeatLearner x = watched(4);
        x.setInput(0, 11);
        x.setInput(1, -22);
        x.setInput(2, 1000000);
        x.setInput(3, -1000000);
        outputsAre("c(0) = 1000", x, 11, -22, 1000000, -1000000);
    }

    private static void firstSamplesHaveFewerInputs() {
        RepeatLearner x = watched(8);
        for (int i = 0; i < 6; i++) {
            x.setPlant(i, 1000 + i);
        }
        for (int k = 0; k < 8; k++) {
            x.setInput(k, 1000);
        }
        outputsAre("i not greater than k", x, 1000, 2001, 3003, 4006, 5010, 6015, 6015, 6015);
    }

    private static void inputsOfSixSamplesAgo() {
        for (int i = 0; i < 6; i++) {
            RepeatLearner x = watched(12);
            x.setPlant(0, 0);
            x.setPlant(i, -3000);
            x.setInput(0, 100);
            x.setInput(6, 1);
            int[] wanted = new int[12];
            wanted[i] = -300;
            wanted[6 + i] = -3;
            outputsAre("only c(" + i + ")", x, wanted);
        }
    }

    private static void outputsRoundDown() {
        RepeatLearner x = watched(8);
        x.setPlant(0, 1);
        int[] inputs = {-1, -999, -1000, -1001, 1, 999, 1000, 1001};
        for (int k = 0; k < 8; k++) {
            x.setInput(k, inputs[k]);
        }
        outputsAre("c(0) = 1", x, -1, -1, -1, -2, 0, 0, 1, 1);
        x.setPlant(0, -1);
        outputsAre("c(0) = -1", x, 0, 0, 1, 1, -1, -1, -1, -2);
        RepeatLearner y = watched(4);
        y.setPlant(0, 1);
        y.setPlant(1, 1);
        y.setInput(0, -1);
        y.setInput(1, 1001);
        y.setInput(2, -2);
        outputsAre("the sum is divided", y, -1, 1, 0, -1);
    }

    private static void theGreatestSums() {
        RepeatLearner x = watched(7);
        for (int i = 0; i < 6; i++) {
            x.setPlant(i, 3000);
        }
        for (int k = 0; k < 7; k++) {
            x.setInput(k, k < 6 ? 1000000 : -1000000);
        }
        outputsAre("sums of 18000000000", x, 1000000, 1000000, 1000000, 1000000, 1000000, 1000000, 1000000);
        for (int i = 0; i < 6; i++) {
            x.setPlant(i, -3000);
        }
        outputsAre("sums of -18000000000", x, -1000000, -1000000, -1000000, -1000000, -1000000, -1000000, -1000000);
        x.setPlant(0, 3000);
        x.setPlant(1, 3000);
        x.setPlant(2, -3000);
        outputsAre("sums that cancel out", x, 1000000, 1000000, 1000000, 0, -1000000, -1000000, -1000000);
    }

    private static void seedsOverflow() {
        RepeatLearner x = watched(6);
        x.setDisturbance(1000, LOW);
        outputsAre("the least seed", x, -248, 458, 984, -894, -752, -81);
        x.setDisturbance(1000, HIGH);
        outputsAre("the greatest seed", x, 922, 159, -391, -295, 461, -788);
        x.setDisturbance(1000, -1);
        outputsAre("seed -1", x, -327, -593, 858, 457, -291, -36);
        x.setDisturbance(1000, 0);
        outputsAre("seed 0", x, -1000, -791, -265, -142, 497, 671);
        x.setDisturbance(30, LOW);
        outputsAre("the least seed, amplitude 30", x, -19, 27, 15, 5, 2, 0);
    }

    /** The next value of seed >>> 16 is 0, 65535, 32767, 32768, 2000 and 2001. */
    private static void seedsAtTheEndsOfTheModulo() {
        int[][] seedAndWanted = {
            {-59267453, -1000}, {286434947, 503}, {-1861048701, -249}, {2088216195, -248}, {25667203, 1000},
            {-320035197, -1000}, {-404969853, -999},
        };
        for (int[] row : seedAndWanted) {
            RepeatLearner x = watched(4);
            x.setDisturbance(1000, row[0]);
            outputsAre("seed " + row[0], x, row[1]);
        }
    }

    private static void amplitudeZero() {
        for (int seed : new int[] {0, 1, -1, LOW, HIGH}) {
            RepeatLearner x = watched(4);
            x.setInput(2, 7);
            Due.is("setDisturbance(0, " + seed + ")", x.setDisturbance(0, seed), 0);
            outputsAre("amplitude 0", x, 0, 0, 7, 0);
            x.setDisturbance(30, 9);
            x.setDisturbance(0, seed);
            outputsAre("amplitude 0 again", x, 0, 0, 7, 0);
        }
    }

    private static void amplitudesAtTheEnds() {
        RepeatLearner x = watched(6);
        x.setDisturbance(1, LOW);
        outputsAre("amplitude 1", x, 1, -1, 0, 0, 1, 0);
        x.setDisturbance(1, HIGH);
        outputsAre("amplitude 1", x, 1, 0, -1, -1, -1, 1);
        for (int amplitude : new int[] {1, 2, 1000}) {
            RepeatLearner y = watched(48);
            y.setDisturbance(amplitude, 77);
            for (int t = 0; t < 4; t++) {
                y.simulate(1);
                int worst = y.error(y.worstSample(0), 0);
                Due.is("within amplitude " + amplitude, Math.abs(worst) <= amplitude ? 1 : 0, 1);
                Due.is("not all 0", worst != 0 ? 1 : 0, 1);
            }
        }
    }

    /** A second trial goes on with the seed that the first one has left. */
    private static void seedsGoOn() {
        RepeatLearner x = watched(4);
        x.setDisturbance(1000, 0);
        outputsAre("the first trial", x, -1000, -791, -265, -142);
        outputsAre("the second trial", x, 497, 671);
        RepeatLearner y = watched(4);
        y.setDisturbance(1000, 0);
        y.simulate(2);
        Due.errors("two trials in one call", y, 0, -497, -671);
        y.setDisturbance(1000, 0);
        outputsAre("the seed set anew", y, -1000, -791, -265, -142);
    }

    private static void seedsGoOnOnlyWithOutputs() {
        RepeatLearner x = watched(4);
        x.setDisturbance(1000, 0);
        Due.trial(x, 1, 2, 3, 4);
        Due.trial(x, 1, 2);
        x.abort();
        x.simulate(21);
        x.setPlant(0, 999);
        x.suits();
        outputsAre("no output of the plant before", x, -1000, -791, -265, -142);
    }

    private static void resetForgetsTheSeed() {
        RepeatLearner x = watched(4);
        x.setDisturbance(30, 99);
        x.setPlant(0, 5);
        x.setPlant(5, 5);
        x.simulate(1);
        x.reset(6);
        x.setGain(0, 0);
        for (int k = 0; k < 6; k++) {
            x.setInput(k, 3000);
        }
        outputsAre("after reset", x, 3000, 3000, 3000, 3000, 3000, 3000);
    }

    private static void outputsAreLimitedWithTheDisturbance() {
        RepeatLearner x = watched(6);
        for (int k = 0; k < 6; k++) {
            x.setInput(k, 1000000);
        }
        x.setDisturbance(1, LOW);
        outputsAre("around 1000000", x, 1000000, 999999, 1000000, 1000000, 1000000, 1000000);
        for (int k = 0; k < 6; k++) {
            x.setInput(k, -1000000);
        }
        x.setDisturbance(1, LOW);
        outputsAre("around -1000000", x, -999999, -1000000, -1000000, -1000000, -999999, -1000000);
        for (int k = 0; k < 6; k++) {
            x.setInput(k, 1000001 - 2);
        }
        x.setDisturbance(1, LOW);
        outputsAre("around 999999", x, 1000000, 999998, 999999, 999999, 1000000, 999999);
        x.setPlant(0, 1001);
        x.setInput(0, 999100);
        x.setDisturbance(1000, LOW);
        outputsAre("limited only once, with the disturbance in it", x, 999851);
    }

    /** Simulated trials align, learn, count and fall back as recorded ones do, and count as started ones. */
    private static void simulatedTrialsAreWholeTrials() {
        RepeatLearner x = Due.withSamples(4);
        x.setReference(0, 64);
        Due.is("startTrial()", x.startTrial(), 0);
        x.abort();
        Due.is("simulate(1)", x.simulate(1), 64);
        Due.is("simulate(4)", x.simulate(4), 4);
        Due.is("simulate(20)", x.simulate(20), 1);
        Due.is("count(0)", x.count(0), 26);
        Due.is("count(1)", x.count(1), 25);
        Due.is("best(1)", x.best(1), 7);
        Due.is("startTrial()", x.startTrial(), 26);
        RepeatLearner y = Due.withSamples(8);
        y.setGreatestShift(5);
        y.setGain(0, 0);
        y.setInput(1, 100);
        y.simulate(1);
        y.setPlant(0, 0);
        y.setPlant(4, 1000);
        Due.is("norm of aligned outputs", y.simulate(1), 100);
        Due.is("shift(0)", y.shift(0), 4);
        Due.errors("aligned", y, 0, 0, -100, 0, 0, 0, 0, 0, 0);
    }

    private static void coefficientsBeyondThePlant() {
        for (int lead = 4; lead <= 8; lead++) {
            RepeatLearner x = new RepeatLearner();
            x.setPlant(0, 0);
            x.setPlant(5, 2000);
            x.setGain(1000, lead);
            Due.is("c(5) with lead " + lead, x.suits(), lead == 5 ? 1 : 0);
            x.setPlant(5, 0);
            Due.is("no coefficient with lead " + lead, x.suits(), 1);
            x.setPlant(0, 1);
            Due.is("c(0) with lead " + lead, x.suits(), 0);
            x.setGain(0, lead);
            Due.is("gain 0 with lead " + lead, x.suits(), 1);
        }
    }

    private static void suitsAtTheEdge() {
        int[][] gainsAndCoefficients = {
            {1, 0, 0, 1}, {1, 1, 0, 1}, {1, 1, 1, 1}, {1, 1, -1, 1}, {1, 1, 2, 0}, {1, 1, -2, 0}, {1, 0, 1, 0},
            {1000, 1000, 1000, 1}, {1000, 1000, -1000, 1}, {1000, 1000, 1001, 0}, {1000, 999, 1000, 0},
            {1000, 1001, 1000, 0}, {1000, 1001, 999, 1}, {1000, 2000, 0, 1}, {1000, 2000, 1, 0}, {1000, 2001, 0, 0},
            {2000, 1000, 0, 1}, {2000, 1000, 1, 0}, {2000, 3000, 0, 0}, {2000, -1, 0, 0}, {333, 3000, 0, 1},
            {333, 3000, 3000, 1}, {334, 3000, 2988, 1}, {334, 3000, 2989, 0}, {334, 2994, 2994, 1}, {334, 2994, 2995, 0},
        };
        for (int[] row : gainsAndCoefficients) {
            RepeatLearner x = new RepeatLearner();
            x.setGain(row[0], 0);
            x.setPlant(0, row[1]);
            x.setPlant(5, row[2]);
            Due.is("gain " + row[0] + ", c(0) = " + row[1] + ", c(5) = " + row[2], x.suits(), row[3]);
        }
    }

    private static void suitsAboveAndBelowOne() {
        RepeatLearner x = new RepeatLearner();
        x.setGain(2000, 2);
        x.setPlant(0, 0);
        for (int i = 0; i < 6; i++) {
            x.setPlant(i, 3000);
        }
        Due.is("the greatest coefficients", x.suits(), 0);
        for (int i = 0; i < 6; i++) {
            x.setPlant(i, i == 2 ? 500 : -100);
        }
        Due.is("a sum of 1000000", x.suits(), 1);
        for (int i = 0; i < 6; i++) {
            if (i != 2) {
                x.setPlant(i, i % 2 == 0 ? 101 : -101);
                Due.is("a sum of 1002000 by c(" + i + ")", x.suits(), 0);
                x.setPlant(i, 100);
            }
        }
        Due.is("a sum of 1000000 again", x.suits(), 1);
    }
}
