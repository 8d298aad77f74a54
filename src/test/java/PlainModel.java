import java.util.ArrayList;
import java.util.List;

/**
 * The document once more, sentence by sentence and in the plainest form, for RandomRunsTest to compare with.
 * It keeps every trial and makes new rows as it likes.
 */
final class PlainModel {
    private static final int BAD_VALUE = -2000000001;
    private static final int RUNNING = -2000000002;
    private static final int NOT_RUNNING = -2000000003;
    private static final int NONE = -2000000004;

    private record Complete(long[] aligned, long[] errors, long norm, int shift) {
    }

    private int n;
    private long[] r;
    private long[] u;
    private int g;
    private int d;
    private int a;
    private int m;
    private int limit;
    private int b;
    private int greatestShift;
    private int tolerance;
    private int h;
    private boolean guard;
    private List<Integer> raw;
    private int started;
    private int aborted;
    private int fallbacks;
    private int bad;
    private List<Complete> complete;
    private long bestNorm;
    private int bestNumber;
    private long[] bestInputs;
    private int[] c;
    private int amplitude;
    private int seed;

    PlainModel() {
        becomeNew(16);
    }

    private void becomeNew(int samples) {
        n = samples;
        r = new long[n];
        u = new long[n];
        g = 500;
        d = 0;
        a = 0;
        m = 1;
        limit = 1000000;
        b = 4;
        greatestShift = 0;
        tolerance = 10;
        h = 2;
        guard = false;
        raw = null;
        started = 0;
        aborted = 0;
        fallbacks = 0;
        bad = 0;
        complete = new ArrayList<>();
        bestInputs = null;
        c = new int[] {1000, 0, 0, 0, 0, 0};
        amplitude = 0;
        seed = 0;
    }

    private static boolean out(long value, long least, long greatest) {
        return value < least || value > greatest;
    }

    private boolean noSample(int k) {
        return out(k, 0, n - 1);
    }

    private static boolean noSignal(int value) {
        return out(value, -1000000, 1000000);
    }

    /** The names and the order are those of RandomRunsTest.NAMES. */
    long answer(String name, int p, int q) {
        return switch (name) {
            case "reset" -> reset(p);
            case "setReference" -> setReference(p, q);
            case "setGain" -> setGain(p, q);
            case "setSmoothing" -> setSmoothing(p, q);
            case "setLimits" -> setLimits(p, q);
            case "setGreatestShift" -> setGreatestShift(p);
            case "setTolerance" -> setTolerance(p, q);
            case "setGuard" -> setGuard(p != 0);
            case "setting" -> setting(p);
            case "startTrial" -> startTrial();
            case "record" -> record(p);
            case "abort" -> abort();
            case "position" -> raw == null ? NOT_RUNNING : raw.size();
            case "input" -> noSample(p) ? BAD_VALUE : u[p];
            case "setInput" -> setInput(p, q);
            case "reference" -> noSample(p) ? BAD_VALUE : r[p];
            case "count" -> count(p);
            case "error" -> noSample(p) || out(q, 0, 4) ? BAD_VALUE : q >= complete.size() ? NONE : ofAge(q).errors[p];
            case "norm" -> out(p, 0, 4) ? BAD_VALUE : p >= complete.size() ? NONE : ofAge(p).norm;
            case "shift" -> out(p, 0, 4) ? BAD_VALUE : p >= complete.size() ? NONE : ofAge(p).shift;
            case "worstSample" -> out(p, 0, 4) ? BAD_VALUE : p >= complete.size() ? NONE : worst(ofAge(p).errors);
            case "energy" -> out(p, 0, 4) ? -1 : p >= complete.size() ? -2 : energy(ofAge(p).errors);
            case "best" -> out(p, 0, 1) ? BAD_VALUE : bestInputs == null ? NONE : p == 0 ? bestNorm : bestNumber;
            case "bestInput" -> noSample(p) ? BAD_VALUE : bestInputs == null ? NONE : bestInputs[p];
            case "state" -> noSample(p) ? BAD_VALUE : state(p);
            case "convergedCount" -> convergedCount();
            case "setPlant" -> setPlant(p, q);
            case "setDisturbance" -> setDisturbance(p, q);
            case "simulate" -> simulate(p);
            case "suits" -> suits();
            default -> throw new IllegalArgumentException(name);
        };
    }

    private Complete ofAge(int age) {
        return complete.get(complete.size() - 1 - age);
    }

    private long reset(int samples) {
        if (out(samples, 4, 48)) {
            return BAD_VALUE;
        }
        int previous = n;
        becomeNew(samples);
        return previous;
    }

    private long setReference(int k, int value) {
        if (noSample(k) || noSignal(value)) {
            return BAD_VALUE;
        }
        long previous = r[k];
        r[k] = value;
        return previous;
    }

    private long setGain(int gain, int lead) {
        if (out(gain, 0, 2000) || out(lead, 0, 8)) {
            return BAD_VALUE;
        }
        long answer = gain == g && lead == d ? 0 : 1;
        g = gain;
        d = lead;
        return answer;
    }

    private long setSmoothing(int weight, int passes) {
        if (out(weight, 0, 333) || out(passes, 0, 4)) {
            return BAD_VALUE;
        }
        long answer = weight == a && passes == m ? 0 : 1;
        a = weight;
        m = passes;
        return answer;
    }

    private long setLimits(int newLimit, int blend) {
        if (out(newLimit, 1, 1000000) || out(blend, 1, 10)) {
            return BAD_VALUE;
        }
        long answer = newLimit == limit && blend == b ? 0 : 1;
        limit = newLimit;
        b = blend;
        return answer;
    }

    private long setGreatestShift(int shift) {
        if (out(shift, 0, 5)) {
            return BAD_VALUE;
        }
        int previous = greatestShift;
        greatestShift = shift;
        return previous;
    }

    private long setTolerance(int newTolerance, int hold) {
        if (out(newTolerance, 0, 1000000) || out(hold, 1, 5)) {
            return BAD_VALUE;
        }
        long answer = newTolerance == tolerance && hold == h ? 0 : 1;
        tolerance = newTolerance;
        h = hold;
        return answer;
    }

    private long setGuard(boolean on) {
        long answer = on == guard ? 0 : 1;
        guard = on;
        return answer;
    }

    private long setting(int what) {
        int[] all = {n, g, d, a, m, limit, b, greatestShift, tolerance, h, guard ? 1 : 0};
        return out(what, 0, 10) ? BAD_VALUE : all[what];
    }

    private long startTrial() {
        if (raw != null) {
            return RUNNING;
        }
        raw = new ArrayList<>();
        return started++;
    }

    private long record(int output) {
        if (raw == null) {
            return NOT_RUNNING;
        }
        if (noSignal(output)) {
            return BAD_VALUE;
        }
        raw.add(output);
        if (raw.size() < n) {
            return u[raw.size()];
        }
        endOfTrial();
        raw = null;
        return NONE;
    }

    private long abort() {
        if (raw == null) {
            return NOT_RUNNING;
        }
        int recorded = raw.size();
        aborted++;
        if (recorded > 0) {
            long[] e = new long[recorded];
            long[] w = new long[recorded];
            for (int k = 0; k < recorded; k++) {
                e[k] = r[k] - raw.get(k);
                w[k] = b < recorded - k ? b : recorded - k;
            }
            correct(e, w);
        }
        raw = null;
        return recorded;
    }

    private long setInput(int k, int value) {
        if (raw != null) {
            return RUNNING;
        }
        if (noSample(k) || noSignal(value)) {
            return BAD_VALUE;
        }
        long previous = u[k];
        u[k] = value;
        return previous;
    }

    private long count(int what) {
        int[] all = {started, complete.size(), aborted, fallbacks, bad};
        return out(what, 0, 4) ? BAD_VALUE : all[what];
    }

    private long rawAt(int index) {
        return index < 0 ? raw.get(0) : index >= n ? raw.get(n - 1) : raw.get(index);
    }

    private void endOfTrial() {
        int s = complete.isEmpty() ? 0 : alignment();
        long[] y = new long[n];
        long[] e = new long[n];
        long norm = 0;
        for (int k = 0; k < n; k++) {
            y[k] = rawAt(k + s);
            e[k] = r[k] - y[k];
            norm += Math.abs(e[k]);
        }
        complete.add(new Complete(y, e, norm, s));
        if (bestInputs == null || norm < bestNorm) {
            bestNorm = norm;
            bestNumber = started - 1;
            bestInputs = u.clone();
            bad = 0;
        } else {
            bad = norm == bestNorm ? 0 : bad + 1;
        }
        if (guard && bad >= 2) {
            fallbacks++;
            u = bestInputs.clone();
            g = Math.floorDiv(g, 2);
            bad = 0;
            return;
        }
        long[] w = new long[n];
        java.util.Arrays.fill(w, b);
        correct(e, w);
    }

    private int alignment() {
        long[] before = ofAge(0).aligned;
        int found = 0;
        long least = Long.MAX_VALUE;
        for (int s = -greatestShift; s <= greatestShift; s++) {
            long sum = 0;
            for (int k = 0; k < n; k++) {
                sum += Math.abs(rawAt(k + s) - before[k]);
            }
            boolean nearer = Math.abs(s) < Math.abs(found);
            boolean negative = Math.abs(s) == Math.abs(found) && s < found;
            if (sum < least || sum == least && (nearer || negative)) {
                least = sum;
                found = s;
            }
        }
        return found;
    }

    private void correct(long[] e, long[] w) {
        for (int k = 0; k < n; k++) {
            if (k + d < e.length) {
                u[k] = u[k] + Math.floorDiv(g * e[k + d] * w[k + d], 1000L * b);
            }
        }
        for (int pass = 0; pass < m; pass++) {
            long[] old = u.clone();
            for (int k = 0; k < n; k++) {
                long left = k == 0 ? old[0] : old[k - 1];
                long right = k == n - 1 ? old[n - 1] : old[k + 1];
                u[k] = Math.floorDiv(a * left + (1000 - 2 * a) * old[k] + a * right, 1000L);
            }
        }
        for (int k = 0; k < n; k++) {
            u[k] = u[k] > limit ? limit : u[k] < -limit ? -limit : u[k];
        }
    }

    private static long worst(long[] e) {
        int found = 0;
        for (int k = 0; k < e.length; k++) {
            found = Math.abs(e[k]) > Math.abs(e[found]) ? k : found;
        }
        return found;
    }

    private static long energy(long[] e) {
        long sum = 0;
        for (long each : e) {
            sum += each * each;
        }
        return sum;
    }

    private boolean converged(int k) {
        boolean all = complete.size() >= h;
        for (int age = 0; all && age < h; age++) {
            all = Math.abs(ofAge(age).errors[k]) <= tolerance;
        }
        return all;
    }

    private long state(int k) {
        if (complete.isEmpty()) {
            return 0;
        }
        if (converged(k)) {
            return 1;
        }
        boolean grown = complete.size() >= 2 && Math.abs(ofAge(0).errors[k]) > Math.abs(ofAge(1).errors[k]);
        return grown ? 2 : 3;
    }

    private long convergedCount() {
        long sum = 0;
        for (int k = 0; k < n; k++) {
            sum += converged(k) ? 1 : 0;
        }
        return sum;
    }

    private long setPlant(int i, int value) {
        if (out(i, 0, 5) || out(value, -3000, 3000)) {
            return BAD_VALUE;
        }
        int previous = c[i];
        c[i] = value;
        return previous;
    }

    private long setDisturbance(int newAmplitude, int newSeed) {
        if (out(newAmplitude, 0, 1000)) {
            return BAD_VALUE;
        }
        int previous = amplitude;
        amplitude = newAmplitude;
        seed = newSeed;
        return previous;
    }

    private long simulate(int trials) {
        if (out(trials, 1, 20)) {
            return BAD_VALUE;
        }
        if (raw != null) {
            return RUNNING;
        }
        for (int t = 0; t < trials; t++) {
            startTrial();
            for (int k = 0; k < n; k++) {
                record((int) plantOutput(k));
            }
        }
        return ofAge(0).norm;
    }

    private long plantOutput(int k) {
        long sum = 0;
        for (int i = 0; i <= 5; i++) {
            sum += i > k ? 0 : c[i] * u[k - i];
        }
        long output = Math.floorDiv(sum, 1000L);
        if (amplitude != 0) {
            seed = seed * 1103515245 + 12345;
            output += Math.floorMod(seed >>> 16, 2 * amplitude + 1) - amplitude;
        }
        return output > 1000000 ? 1000000 : output < -1000000 ? -1000000 : output;
    }

    private long suits() {
        long sum = Math.abs(1000000 - g * (long) (d > 5 ? 0 : c[d]));
        for (int i = 0; i <= 5; i++) {
            sum += i == d ? 0 : Math.abs(g * (long) c[i]);
        }
        return sum <= 1000000 ? 1 : 0;
    }
}
