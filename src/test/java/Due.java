/** Compares answers with those that are due, and tells the difference by the exit code. */
final class Due {
    private static int asked = 0;
    private static int wrong = 0;

    private Due() {
    }

    static void is(String call, long got, long want) {
        asked++;
        if (got != want) {
            wrong++;
            System.out.println(call + " answered " + got + ", due is " + want);
        }
    }

    static void inputs(String what, RepeatLearner x, int... wanted) {
        for (int k = 0; k < wanted.length; k++) {
            is(what + ": input(" + k + ")", x.input(k), wanted[k]);
        }
    }

    static void errors(String what, RepeatLearner x, int age, int... wanted) {
        for (int k = 0; k < wanted.length; k++) {
            is(what + ": error(" + k + ", " + age + ")", x.error(k, age), wanted[k]);
        }
    }

    /** Starts a trial and records these outputs; the last answer is returned. */
    static int trial(RepeatLearner x, int... outputs) {
        int answer = x.startTrial();
        for (int output : outputs) {
            answer = x.record(output);
        }
        return answer;
    }

    static RepeatLearner withSamples(int samples) {
        RepeatLearner x = new RepeatLearner();
        is("reset(" + samples + ") of a new object", x.reset(samples), 16);
        return x;
    }

    static void finish() {
        System.out.println(asked + " answers, " + wrong + " not as due");
        if (wrong != 0 || asked == 0) {
            System.exit(1);
        }
    }
}
