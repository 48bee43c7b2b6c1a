/** What the tests share: each wrong answer is printed, and a test with one ends with exit code 1. */
final class Check {
    interface Call {
        int answer();
    }

    private static int wrong = 0;

    private Check() {
    }

    static void due(String what, boolean got, boolean want) {
        due(what, String.valueOf(got), String.valueOf(want));
    }

    static void due(String what, int got, int want) {
        due(what, String.valueOf(got), String.valueOf(want));
    }

    static void due(String what, String got, String want) {
        if (!got.equals(want)) {
            wrong++;
            System.out.println(what + ": answered " + got + ", due is " + want);
        }
    }

    static void yes(String what, boolean got) {
        due(what, got, true);
    }

    static void no(String what, boolean got) {
        due(what, got, false);
    }

    static void answers(String what, int want, Call call) {
        due(what, outcome(call), String.valueOf(want));
    }

    static void refuses(String what, Class<? extends RuntimeException> want, Call call) {
        due(what, outcome(call), want.getSimpleName());
    }

    /** The answer as a text, or the name of what was thrown. */
    static String outcome(Call call) {
        try {
            return String.valueOf(call.answer());
        } catch (RuntimeException e) {
            return e.getClass().getSimpleName();
        }
    }

    /** All that an object tells. Few enough calls that two of these and a test stay under 512. */
    static String allOf(BuildDesk x) {
        StringBuilder told = new StringBuilder();
        for (int what = 0; what <= 5; what++) {
            told.append("count ").append(what).append(' ').append(x.count(what)).append('\n');
        }
        for (int k = 0; k < x.count(1); k++) {
            for (int what = 0; what <= 4; what++) {
                told.append("begun ").append(k).append(' ').append(x.begun(k, what)).append('\n');
            }
        }
        told.append("round ").append(roundOf(x)).append('\n');
        for (int file = 0; file < 64; file++) {
            final int f = file;
            told.append("file ").append(f).append(' ').append(outcome(() -> x.content(f))).append('\n');
        }
        for (int s = 0; s < 40; s++) {
            told.append("reason ").append(s).append(' ').append(x.reason(s)).append('\n');
        }
        return told.toString();
    }

    static String roundOf(BuildDesk x) {
        StringBuilder told = new StringBuilder();
        for (int i = 0; i <= 40; i++) {
            final int at = i;
            String step = outcome(() -> x.cycle(at));
            if (step.equals("NoSuchElementException")) {
                return told.toString().trim();
            }
            told.append(step).append(' ');
        }
        return told.append("without an end").toString();
    }

    /** One row of begun(): number, began, ended, worker, REASON. */
    static String row(BuildDesk x, int k) {
        StringBuilder told = new StringBuilder();
        for (int what = 0; what <= 4; what++) {
            final int w = what;
            told.append(outcome(() -> x.begun(k, w))).append(' ');
        }
        return told.toString().trim();
    }

    /** A step with one OUTPUT and these INPUTS. */
    static void tell(BuildDesk x, int s, int recipe, int duration, int out, int... ins) {
        yes("telling step " + s, x.step(s, recipe, -1, duration));
        yes("telling its output " + out, x.output(s, out));
        for (int in : ins) {
            yes("telling its input " + in, x.input(s, in));
        }
    }

    static void end() {
        System.out.println(wrong == 0 ? "all answers are as due" : wrong + " answers are not as due");
        if (wrong != 0) {
            System.exit(1);
        }
    }
}
