import java.util.Random;

/** Many runs of calls with arguments by chance (the same ones each time), compared with PlainModel call by call. */
public final class RandomRunsTest {
    private static final int RUNS = 3000;
    private static final int CALLS = 512;
    private static final int MOST_TOLD = 20;

    private static final String[] NAMES = {
        "reset", "setReference", "setGain", "setSmoothing", "setLimits", "setGreatestShift", "setTolerance",
        "setGuard", "setting", "startTrial", "record", "abort", "position", "input", "setInput", "reference",
        "count", "error", "norm", "shift", "worstSample", "energy", "best", "bestInput", "state",
        "convergedCount", "setPlant", "setDisturbance", "simulate", "suits",
    };
    private static final int[] EDGES = {
        Integer.MIN_VALUE, -1000001, -1000000, -3001, -3000, -1, 0, 1, 4, 5, 6, 8, 9, 10, 11, 20, 21, 48, 49,
        333, 334, 1000, 1001, 2000, 2001, 3000, 3001, 1000000, 1000001, Integer.MAX_VALUE,
    };

    public static void main(String[] args) {
        int told = 0;
        for (int run = 0; run < RUNS && told < MOST_TOLD; run++) {
            told += oneRun(run) ? 0 : 1;
        }
        Due.is("runs with a wrong answer", told, 0);
        Due.finish();
    }

    private static boolean oneRun(int run) {
        Random chance = new Random(run);
        RepeatLearner x = new RepeatLearner();
        PlainModel model = new PlainModel();
        int size = chance.nextInt(4) == 0 ? 1000000 : 10 + chance.nextInt(2000);
        for (int i = 0; i < CALLS; i++) {
            String name = someName(chance, i);
            int p = first(name, chance, size);
            int q = second(name, chance, size);
            long want = model.answer(name, p, q);
            long got = asked(x, name, p, q);
            if (got != want) {
                System.out.println("run " + run + ", call " + i + ": " + name + " of " + p + ", " + q
                    + " answered " + got + ", due is " + want);
                return false;
            }
        }
        return true;
    }

    /** Few resets, many records: else hardly a trial would be complete. */
    private static String someName(Random chance, int i) {
        if (i == 0) {
            return "reset";
        }
        int dice = chance.nextInt(100);
        if (dice < 40) {
            return "record";
        }
        if (dice < 48) {
            return "startTrial";
        }
        if (dice < 52) {
            return "simulate";
        }
        String name = NAMES[chance.nextInt(NAMES.length)];
        boolean rare = name.equals("reset") || name.equals("abort");
        return rare && chance.nextInt(8) != 0 ? "input" : name;
    }

    private static int signal(Random chance, int size) {
        return chance.nextInt(2 * size + 1) - size;
    }

    private static int first(String name, Random chance, int size) {
        if (chance.nextInt(25) == 0) {
            return EDGES[chance.nextInt(EDGES.length)];
        }
        return switch (name) {
            case "reset" -> 4 + chance.nextInt(chance.nextInt(4) == 0 ? 45 : 6);
            case "setGain" -> chance.nextInt(2001);
            case "setSmoothing" -> chance.nextInt(334);
            case "setLimits" -> 1 + chance.nextInt(2 * size);
            case "setGreatestShift" -> chance.nextInt(6);
            case "setTolerance" -> chance.nextInt(size);
            case "setGuard" -> chance.nextInt(3);
            case "setting" -> chance.nextInt(11);
            case "record" -> chance.nextInt(3) == 0 ? 0 : signal(chance, size);
            case "count", "norm", "shift", "worstSample", "energy" -> chance.nextInt(5);
            case "best" -> chance.nextInt(2);
            case "setPlant" -> chance.nextInt(6);
            case "setDisturbance" -> chance.nextInt(1001);
            case "simulate" -> 1 + chance.nextInt(4);
            default -> chance.nextInt(10);
        };
    }

    private static int second(String name, Random chance, int size) {
        if (chance.nextInt(25) == 0) {
            return EDGES[chance.nextInt(EDGES.length)];
        }
        return switch (name) {
            case "setGain" -> chance.nextInt(chance.nextBoolean() ? 3 : 9);
            case "setSmoothing", "error" -> chance.nextInt(5);
            case "setLimits" -> 1 + chance.nextInt(10);
            case "setTolerance" -> 1 + chance.nextInt(5);
            case "setPlant" -> chance.nextInt(6001) - 3000;
            case "setDisturbance" -> chance.nextInt();
            default -> signal(chance, size);
        };
    }

    private static long asked(RepeatLearner x, String name, int p, int q) {
        return switch (name) {
            case "reset" -> x.reset(p);
            case "setReference" -> x.setReference(p, q);
            case "setGain" -> x.setGain(p, q);
            case "setSmoothing" -> x.setSmoothing(p, q);
            case "setLimits" -> x.setLimits(p, q);
            case "setGreatestShift" -> x.setGreatestShift(p);
            case "setTolerance" -> x.setTolerance(p, q);
            case "setGuard" -> x.setGuard(p != 0);
            case "setting" -> x.setting(p);
            case "startTrial" -> x.startTrial();
            case "record" -> x.record(p);
            case "abort" -> x.abort();
            case "position" -> x.position();
            case "input" -> x.input(p);
            case "setInput" -> x.setInput(p, q);
            case "reference" -> x.reference(p);
            case "count" -> x.count(p);
            case "error" -> x.error(p, q);
            case "norm" -> x.norm(p);
            case "shift" -> x.shift(p);
            case "worstSample" -> x.worstSample(p);
            case "energy" -> x.energy(p);
            case "best" -> x.best(p);
            case "bestInput" -> x.bestInput(p);
            case "state" -> x.state(p);
            case "convergedCount" -> x.convergedCount();
            case "setPlant" -> x.setPlant(p, q);
            case "setDisturbance" -> x.setDisturbance(p, q);
            case "simulate" -> x.simulate(p);
            case "suits" -> x.suits();
            default -> throw new IllegalArgumentException(name);
        };
    }
}
