import java.util.Arrays;

/** An iterative learning controller for a motion that is repeated in trials of a fixed length. */
public final class RepeatLearner {
    public static final int BAD_VALUE = -2000000001;
    public static final int RUNNING = -2000000002;
    public static final int NOT_RUNNING = -2000000003;
    public static final int NONE = -2000000004;

    private static final int FEWEST_SAMPLES = 4;
    private static final int FIRST_SAMPLES = 16;
    private static final int MOST_SAMPLES = 48;
    private static final int GREATEST_SIGNAL = 1000000;
    private static final int MOST_SIMULATED = 20;
    private static final int BAD_TRIALS_TO_FALL_BACK = 2;

    private final Settings settings;
    private final Plant plant;
    private final History history;
    private final Best best;

    private final int[] references;
    private final int[] inputs;
    private final int[] smoothed;
    private final int[] raw;
    private final int[] aligned;
    private final int[] partErrors;

    private boolean running;
    private int recorded;
    private int started;
    private int aborted;
    private int fallbacks;
    private int badTrials;

    /** All rows have room for the longest trial, so that no later call makes an object. */
    public RepeatLearner() {
        settings = new Settings();
        plant = new Plant();
        history = new History();
        best = new Best();
        references = new int[MOST_SAMPLES];
        inputs = new int[MOST_SAMPLES];
        smoothed = new int[MOST_SAMPLES];
        raw = new int[MOST_SAMPLES];
        aligned = new int[MOST_SAMPLES];
        partErrors = new int[MOST_SAMPLES];
        startAnew(FIRST_SAMPLES);
    }

    // ---- settings

    public int reset(int samples) {
        if (!isWithin(samples, FEWEST_SAMPLES, MOST_SAMPLES)) {
            return BAD_VALUE;
        }
        int previous = settings.samples;
        startAnew(samples);
        return previous;
    }

    public int setReference(int k, int value) {
        if (!isSample(k) || !isSignal(value)) {
            return BAD_VALUE;
        }
        int previous = references[k];
        references[k] = value;
        return previous;
    }

    public int setGain(int gain, int lead) {
        if (!isWithin(gain, 0, 2000) || !isWithin(lead, 0, 8)) {
            return BAD_VALUE;
        }
        boolean changes = gain != settings.gain || lead != settings.lead;
        settings.gain = gain;
        settings.lead = lead;
        return oneIf(changes);
    }

    public int setSmoothing(int weight, int passes) {
        if (!isWithin(weight, 0, 333) || !isWithin(passes, 0, 4)) {
            return BAD_VALUE;
        }
        boolean changes = weight != settings.weight || passes != settings.passes;
        settings.weight = weight;
        settings.passes = passes;
        return oneIf(changes);
    }

    public int setLimits(int limit, int blend) {
        if (!isWithin(limit, 1, GREATEST_SIGNAL) || !isWithin(blend, 1, 10)) {
            return BAD_VALUE;
        }
        boolean changes = limit != settings.limit || blend != settings.blend;
        settings.limit = limit;
        settings.blend = blend;
        return oneIf(changes);
    }

    public int setGreatestShift(int shift) {
        if (!isWithin(shift, 0, 5)) {
            return BAD_VALUE;
        }
        int previous = settings.greatestShift;
        settings.greatestShift = shift;
        return previous;
    }

    public int setTolerance(int tolerance, int hold) {
        if (!isWithin(tolerance, 0, 1000000) || !isWithin(hold, 1, History.LENGTH)) {
            return BAD_VALUE;
        }
        boolean changes = tolerance != settings.tolerance || hold != settings.hold;
        settings.tolerance = tolerance;
        settings.hold = hold;
        return oneIf(changes);
    }

    public int setGuard(boolean on) {
        boolean changes = on != settings.guard;
        settings.guard = on;
        return oneIf(changes);
    }

    public int setting(int what) {
        switch (what) {
            case 0: return settings.samples;
            case 1: return settings.gain;
            case 2: return settings.lead;
            case 3: return settings.weight;
            case 4: return settings.passes;
            case 5: return settings.limit;
            case 6: return settings.blend;
            case 7: return settings.greatestShift;
            case 8: return settings.tolerance;
            case 9: return settings.hold;
            case 10: return oneIf(settings.guard);
            default: return BAD_VALUE;
        }
    }

    // ---- trials

    public int startTrial() {
        if (running) {
            return RUNNING;
        }
        beginTrial();
        return started - 1;
    }

    public int record(int output) {
        if (!running) {
            return NOT_RUNNING;
        }
        if (!isSignal(output)) {
            return BAD_VALUE;
        }
        takeOutput(output);
        return running ? inputs[recorded] : NONE;
    }

    public int abort() {
        if (!running) {
            return NOT_RUNNING;
        }
        running = false;
        aborted++;
        if (recorded > 0) {
            learnFromPart();
        }
        return recorded;
    }

    public int position() {
        return running ? recorded : NOT_RUNNING;
    }

    public int input(int k) {
        return isSample(k) ? inputs[k] : BAD_VALUE;
    }

    public int setInput(int k, int value) {
        if (running) {
            return RUNNING;
        }
        if (!isSample(k) || !isSignal(value)) {
            return BAD_VALUE;
        }
        int previous = inputs[k];
        inputs[k] = value;
        return previous;
    }

    public int reference(int k) {
        return isSample(k) ? references[k] : BAD_VALUE;
    }

    // ---- history

    public int count(int what) {
        switch (what) {
            case 0: return started;
            case 1: return history.complete;
            case 2: return aborted;
            case 3: return fallbacks;
            case 4: return badTrials;
            default: return BAD_VALUE;
        }
    }

    public int error(int k, int age) {
        if (!isSample(k) || !isAge(age)) {
            return BAD_VALUE;
        }
        return history.reaches(age) ? history.errorsOf(age)[k] : NONE;
    }

    public int norm(int age) {
        if (!isAge(age)) {
            return BAD_VALUE;
        }
        return history.reaches(age) ? history.norms[history.slot(age)] : NONE;
    }

    public int shift(int age) {
        if (!isAge(age)) {
            return BAD_VALUE;
        }
        return history.reaches(age) ? history.shifts[history.slot(age)] : NONE;
    }

    public int worstSample(int age) {
        if (!isAge(age)) {
            return BAD_VALUE;
        }
        return history.reaches(age) ? indexOfGreatest(history.errorsOf(age), settings.samples) : NONE;
    }

    public long energy(int age) {
        if (!isAge(age)) {
            return -1L;
        }
        return history.reaches(age) ? sumOfSquares(history.errorsOf(age), settings.samples) : -2L;
    }

    public int best(int what) {
        if (!isWithin(what, 0, 1)) {
            return BAD_VALUE;
        }
        if (!best.known) {
            return NONE;
        }
        return what == 0 ? best.leastNorm : best.number;
    }

    public int bestInput(int k) {
        if (!isSample(k)) {
            return BAD_VALUE;
        }
        return best.known ? best.usedInputs[k] : NONE;
    }

    // ---- convergence

    public int state(int k) {
        if (!isSample(k)) {
            return BAD_VALUE;
        }
        if (!history.reaches(0)) {
            return 0;
        }
        if (hasConverged(k)) {
            return 1;
        }
        return history.hasGrown(k) ? 2 : 3;
    }

    public int convergedCount() {
        int converged = 0;
        for (int k = 0; k < settings.samples; k++) {
            if (hasConverged(k)) {
                converged++;
            }
        }
        return converged;
    }

    // ---- the plant

    public int setPlant(int i, int value) {
        if (!isWithin(i, 0, Plant.SIZE - 1) || !isWithin(value, -3000, 3000)) {
            return BAD_VALUE;
        }
        int previous = plant.coefficients[i];
        plant.coefficients[i] = value;
        return previous;
    }

    public int setDisturbance(int amplitude, int seed) {
        if (!isWithin(amplitude, 0, 1000)) {
            return BAD_VALUE;
        }
        int previous = plant.amplitude;
        plant.amplitude = amplitude;
        plant.seed = seed;
        return previous;
    }

    public int simulate(int trials) {
        if (!isWithin(trials, 1, MOST_SIMULATED)) {
            return BAD_VALUE;
        }
        if (running) {
            return RUNNING;
        }
        for (int t = 0; t < trials; t++) {
            simulateTrial();
        }
        return history.norms[history.slot(0)];
    }

    public int suits() {
        long sum = 0;
        for (int i = 0; i < Plant.SIZE; i++) {
            if (i != settings.lead) {
                sum += Math.abs((long) settings.gain * plant.coefficients[i]);
            }
        }
        // A lead beyond the plant has no coefficient of its own: it counts as 0.
        int leading = settings.lead < Plant.SIZE ? plant.coefficients[settings.lead] : 0;
        sum += Math.abs(1000000L - (long) settings.gain * leading);
        return oneIf(sum <= 1000000L);
    }

    // ---- tests of arguments

    private static boolean isWithin(int value, int least, int greatest) {
        return value >= least && value <= greatest;
    }

    private static boolean isSignal(int value) {
        return isWithin(value, -GREATEST_SIGNAL, GREATEST_SIGNAL);
    }

    private static boolean isAge(int age) {
        return isWithin(age, 0, History.LENGTH - 1);
    }

    private boolean isSample(int k) {
        return isWithin(k, 0, settings.samples - 1);
    }

    private static int oneIf(boolean condition) {
        return condition ? 1 : 0;
    }

    private static int limitTo(long value, int limit) {
        return (int) Math.max(-limit, Math.min(limit, value));
    }

    // ---- the course of a trial

    private void startAnew(int samples) {
        settings.becomeAsAtFirst(samples);
        plant.becomeAsAtFirst();
        history.complete = 0;
        best.known = false;
        Arrays.fill(references, 0);
        Arrays.fill(inputs, 0);
        running = false;
        recorded = 0;
        started = 0;
        aborted = 0;
        fallbacks = 0;
        badTrials = 0;
    }

    private void beginTrial() {
        running = true;
        recorded = 0;
        started++;
    }

    private void takeOutput(int output) {
        raw[recorded] = output;
        recorded++;
        if (recorded >= settings.samples) {
            completeTrial();
        }
    }

    private void simulateTrial() {
        beginTrial();
        for (int k = 0; k < settings.samples; k++) {
            takeOutput(limitTo(plant.outputAt(inputs, k), GREATEST_SIGNAL));
        }
    }

    private void completeTrial() {
        running = false;
        int shift = history.reaches(0) ? bestFittingShift() : 0;
        for (int k = 0; k < settings.samples; k++) {
            aligned[k] = rawAt(k + shift);
        }
        history.add(references, aligned, settings.samples, shift);
        judge(history.norms[history.slot(0)]);
        if (settings.guard && badTrials >= BAD_TRIALS_TO_FALL_BACK) {
            fallBack();
        } else {
            correct(history.errorsOf(0), settings.samples, false);
        }
    }

    /** Between equal misfits the order of the turns decides: 0, -1, 1, -2, 2 and so on. */
    private int bestFittingShift() {
        int fitting = 0;
        long least = misfit(0);
        for (int turn = 2; turn <= 2 * settings.greatestShift + 1; turn++) {
            int shift = turn % 2 == 0 ? -turn / 2 : turn / 2;
            long sum = misfit(shift);
            if (sum < least) {
                least = sum;
                fitting = shift;
            }
        }
        return fitting;
    }

    private long misfit(int shift) {
        long sum = 0;
        for (int k = 0; k < settings.samples; k++) {
            sum += Math.abs(rawAt(k + shift) - aligned[k]);
        }
        return sum;
    }

    private int rawAt(int index) {
        return raw[Math.max(0, Math.min(settings.samples - 1, index))];
    }

    private void judge(int norm) {
        if (!best.known || norm < best.leastNorm) {
            best.remember(norm, started - 1, inputs);
            badTrials = 0;
        } else if (norm > best.leastNorm) {
            badTrials++;
        } else {
            badTrials = 0;
        }
    }

    private void fallBack() {
        System.arraycopy(best.usedInputs, 0, inputs, 0, MOST_SAMPLES);
        settings.gain /= 2;
        badTrials = 0;
        fallbacks++;
    }

    private void learnFromPart() {
        for (int k = 0; k < recorded; k++) {
            partErrors[k] = references[k] - raw[k];
        }
        correct(partErrors, recorded, true);
    }

    /** The last samples of an aborted trial fade, so that the corrected inputs have no edge where it ended. */
    private void correct(int[] errors, int known, boolean fades) {
        for (int k = 0; k + settings.lead < known; k++) {
            int from = k + settings.lead;
            int weight = fades ? Math.min(settings.blend, known - from) : settings.blend;
            long change = (long) settings.gain * errors[from] * weight;
            inputs[k] += (int) Math.floorDiv(change, 1000L * settings.blend);
        }
        for (int pass = 0; pass < settings.passes; pass++) {
            smoothOnce();
        }
        for (int k = 0; k < settings.samples; k++) {
            inputs[k] = limitTo(inputs[k], settings.limit);
        }
    }

    private void smoothOnce() {
        int last = settings.samples - 1;
        long side = settings.weight;
        long middle = 1000L - 2L * side;
        for (int k = 0; k <= last; k++) {
            long before = inputs[Math.max(0, k - 1)];
            long after = inputs[Math.min(last, k + 1)];
            smoothed[k] = (int) Math.floorDiv(side * before + middle * inputs[k] + side * after, 1000L);
        }
        System.arraycopy(smoothed, 0, inputs, 0, settings.samples);
    }

    private boolean hasConverged(int k) {
        return history.staysWithin(k, settings.hold, settings.tolerance);
    }

    // ---- sums over errors

    private static int indexOfGreatest(int[] errors, int samples) {
        int worst = 0;
        for (int k = 1; k < samples; k++) {
            if (Math.abs(errors[k]) > Math.abs(errors[worst])) {
                worst = k;
            }
        }
        return worst;
    }

    private static long sumOfSquares(int[] errors, int samples) {
        long sum = 0;
        for (int k = 0; k < samples; k++) {
            sum += (long) errors[k] * errors[k];
        }
        return sum;
    }

    /** All that is set once for the trials to come. */
    private static final class Settings {
        int samples;
        int gain;
        int lead;
        int weight;
        int passes;
        int limit;
        int blend;
        int greatestShift;
        int tolerance;
        int hold;
        boolean guard;

        void becomeAsAtFirst(int newSamples) {
            samples = newSamples;
            gain = 500;
            lead = 0;
            weight = 0;
            passes = 1;
            limit = GREATEST_SIGNAL;
            blend = 4;
            greatestShift = 0;
            tolerance = 10;
            hold = 2;
            guard = false;
        }
    }

    /** The best complete trial; the rest means something only while known is true. */
    private static final class Best {
        final int[] usedInputs = new int[MOST_SAMPLES];
        boolean known;
        int leastNorm;
        int number;

        void remember(int newNorm, int newNumber, int[] newInputs) {
            known = true;
            leastNorm = newNorm;
            number = newNumber;
            System.arraycopy(newInputs, 0, usedInputs, 0, MOST_SAMPLES);
        }
    }

    /** The latest complete trials, in rows that are used again in turn. */
    private static final class History {
        static final int LENGTH = 5;

        final int[][] errors = new int[LENGTH][MOST_SAMPLES];
        final int[] norms = new int[LENGTH];
        final int[] shifts = new int[LENGTH];
        int complete;

        boolean reaches(int age) {
            return age < complete;
        }

        int slot(int age) {
            return Math.floorMod(complete - 1 - age, LENGTH);
        }

        int[] errorsOf(int age) {
            return errors[slot(age)];
        }

        void add(int[] wanted, int[] outputs, int samples, int usedShift) {
            complete++;
            int slot = slot(0);
            int sum = 0;
            for (int k = 0; k < samples; k++) {
                errors[slot][k] = wanted[k] - outputs[k];
                sum += Math.abs(errors[slot][k]);
            }
            norms[slot] = sum;
            shifts[slot] = usedShift;
        }

        boolean staysWithin(int k, int trials, int tolerance) {
            if (complete < trials) {
                return false;
            }
            for (int age = 0; age < trials; age++) {
                if (Math.abs(errorsOf(age)[k]) > tolerance) {
                    return false;
                }
            }
            return true;
        }

        boolean hasGrown(int k) {
            return complete >= 2 && Math.abs(errorsOf(0)[k]) > Math.abs(errorsOf(1)[k]);
        }
    }

    /** The built-in plant: a weighted sum of the latest inputs, and a disturbance. */
    private static final class Plant {
        static final int SIZE = 6;

        final int[] coefficients = new int[SIZE];
        int amplitude;
        int seed;

        void becomeAsAtFirst() {
            Arrays.fill(coefficients, 0);
            coefficients[0] = 1000;
            amplitude = 0;
            seed = 0;
        }

        long outputAt(int[] inputs, int k) {
            long sum = 0;
            int oldest = Math.min(k, SIZE - 1);
            for (int i = 0; i <= oldest; i++) {
                sum += (long) coefficients[i] * inputs[k - i];
            }
            return Math.floorDiv(sum, 1000L) + nextDisturbance();
        }

        /** The seed stays as it is while the amplitude is 0. */
        private int nextDisturbance() {
            if (amplitude == 0) {
                return 0;
            }
            seed = seed * 1103515245 + 12345;
            return (seed >>> 16) % (2 * amplitude + 1) - amplitude;
        }
    }
}
