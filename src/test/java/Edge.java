/** What the tests of the edges share: numbers just and far outside, and a look for traces. */
final class Edge {
    interface Use {
        void on(BuildDesk x);
    }

    static final int LEAST = Integer.MIN_VALUE;
    static final int GREATEST = Integer.MAX_VALUE;

    /** Beside those just outside, such as would pass if only their last bits were looked at. */
    static final int[] NO_STEP = {-1, 40, 41, 63, 64, 65, 104, -40, -64, 256, 1 << 16, LEAST, GREATEST};
    static final int[] NO_FILE = {-1, 64, 65, 74, 127, 128, -54, -64, 256, 1 << 16, LEAST, GREATEST};
    static final int[] NO_DURATION = {0, 101, -1, -100, 128, 257, 1 << 16, LEAST, GREATEST};
    static final int[] NO_WORKERS = {0, 9, -1, -8, 16, 257, 1 << 16, LEAST, GREATEST};

    private Edge() {
    }

    /**
     * Step 0 is full and was MADE, as was 1; 5 and 6 are a round that was told, 7 is one that was
     * not; 8 lacks the SOURCE 3; step 9 is empty; a change of file 1 waits to be built.
     */
    static BuildDesk used() {
        BuildDesk x = new BuildDesk();
        Check.tell(x, 0, 7, 5, 10, 1, 2, 1, 2, 1, 2);
        Check.yes("outputs", x.output(0, 11) && x.output(0, 12));
        Check.tell(x, 1, 8, 3, 13, 10);
        Check.tell(x, 5, 9, 1, 15, 16);
        Check.tell(x, 6, 9, 1, 16, 15);
        Check.tell(x, 7, 9, 1, 17, 17, 13);
        Check.tell(x, 8, 9, 1, 18, 13, 3);
        Check.yes("an empty step", x.step(9, 1, 1, 1));
        Check.yes("sources", x.source(1, 11) && x.source(2, 12));
        Check.answers("build", 8, () -> x.build(13, 2));
        Check.refuses("build", IllegalStateException.class, () -> x.build(16, 2));
        Check.yes("change", x.source(1, 5));
        return x;
    }

    /** A call on a used desk leaves it, now and later, as one that didn't get the call. */
    static void leavesNoTrace(String what, Use call) {
        leavesRound(what, call, "5 6");
    }

    /** The same, but for the round that is told. */
    static void leavesRound(String what, Use call, String round) {
        BuildDesk plain = used();
        BuildDesk called = used();
        call.on(called);
        Check.due(what + ": all that is told", Check.allOf(called), withRound(Check.allOf(plain), round));
        Check.due(what + ": what comes of it later", later(called), withRound(later(plain), round));
    }

    private static String withRound(String told, String round) {
        return told.replace("round 5 6\n", "round " + round + "\n");
    }

    /** Calls whose answers hang on what can't be asked for: INPUTS, OUTPUTS, DURATIONS, makers. */
    private static String later(BuildDesk x) {
        StringBuilder told = new StringBuilder();
        told.append(Check.outcome(() -> x.build(13, 1))).append(' ').append(x.count(2));
        told.append(' ').append(x.source(3, 4)).append(' ');
        told.append(Check.outcome(() -> x.build(18, 1))).append(' ').append(x.count(2));
        for (int s : new int[] {0, 1, 9, 20}) {
            told.append('\n').append(s).append(" takes");
            for (int i = 0; i < 7; i++) {
                told.append(' ').append(x.input(s, 2));
            }
            told.append(", makes");
            for (int i = 0; i < 4; i++) {
                told.append(' ').append(x.output(s, 30 + 5 * i + s % 5));
            }
        }
        told.append('\n').append(Check.outcome(() -> x.build(18, 8))).append(' ').append(x.count(2));
        for (int file : new int[] {10, 11, 12, 13, 15, 16, 17, 18, 60}) {
            told.append(' ').append(x.source(file, 1));
        }
        return told.append('\n').append(Check.allOf(x)).toString();
    }
}
