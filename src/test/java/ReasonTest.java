/** Promise 13: the REASONS, and which comes first where several hold. */
public final class ReasonTest {
    public static void main(String[] args) {
        numbers();
        each();
        toldBack();
        firstOfSeveral();
        inputs();
        reasonsOfBegun();
        Check.end();
    }

    private static BuildDesk made() {
        BuildDesk x = new BuildDesk();
        Check.tell(x, 0, 7, 5, 10, 1, 2);
        Check.yes("sources", x.source(1, 11) && x.source(2, 12));
        Check.due("13: never MADE", x.reason(0), 1);
        Check.answers("build", 5, () -> x.build(10, 1));
        Check.due("13: not DUE", x.reason(0), 0);
        return x;
    }

    private static void numbers() {
        BuildDesk x = new BuildDesk();
        for (int s : new int[] {-1, 40, 0, 39, Integer.MIN_VALUE, Integer.MAX_VALUE}) {
            Check.due("13: step " + s, x.reason(s), BuildDesk.NONE);
        }
        Check.yes("steps", x.step(0, 0, 0, 1) && x.step(39, 0, 0, 1));
        Check.due("13: step 0", x.reason(0), 1);
        Check.due("13: step 39", x.reason(39), 1);
    }

    private static void each() {
        BuildDesk recipe = made();
        Check.yes("step", recipe.step(0, 8, -1, 5));
        Check.due("13: RECIPE", recipe.reason(0), 2);
        BuildDesk mask = made();
        Check.yes("step", mask.step(0, 7, -2, 5));
        Check.due("13: MASK", mask.reason(0), 2);
        BuildDesk duration = made();
        Check.yes("step", duration.step(0, 7, -1, 6));
        Check.due("13: DURATION is no REASON", duration.reason(0), 0);
        BuildDesk input = made();
        Check.yes("input", input.input(0, 1));
        Check.due("13: INPUTS", input.reason(0), 2);
        BuildDesk output = made();
        Check.yes("files", output.source(11, 5) && output.output(0, 11));
        Check.due("13: OUTPUTS", output.reason(0), 2);
        BuildDesk spoilt = made();
        Check.yes("spoil", spoilt.spoil(10));
        Check.due("13: OUTPUT without CONTENT", spoilt.reason(0), 3);
        BuildDesk changed = made();
        Check.yes("source", changed.source(2, 13));
        Check.due("13: INPUT with another", changed.reason(0), 4);
        BuildDesk none = made();
        Check.yes("spoil", none.spoil(1));
        Check.due("13: INPUT without", none.reason(0), 4);
        BuildDesk anew = made();
        Check.yes("drop", anew.drop(0));
        Check.due("13: not there", anew.reason(0), BuildDesk.NONE);
        Check.tell(anew, 0, 7, 5, 10, 1, 2);
        Check.due("13: told anew", anew.reason(0), 1);
    }

    private static void toldBack() {
        BuildDesk x = made();
        Check.yes("step", x.step(0, 8, 3, 5) && x.step(0, 7, -1, 5));
        Check.due("13: told as it was", x.reason(0), 0);
        Check.yes("source", x.source(1, 0) && x.source(1, 11));
        Check.due("13: CONTENT as it was", x.reason(0), 0);
        Check.yes("spoil", x.spoil(1) && x.source(1, 11));
        Check.due("13: spoilt and as it was", x.reason(0), 0);
        Check.no("refused", x.step(0, 9, 9, 0));
        Check.no("refused", x.input(0, 64));
        Check.no("refused", x.output(0, 64));
        Check.due("13: refusals give no REASON", x.reason(0), 0);
    }

    private static void firstOfSeveral() {
        BuildDesk x = made();
        Check.yes("source", x.source(1, 0));
        Check.due("13: 4 alone", x.reason(0), 4);
        Check.yes("spoil", x.spoil(10));
        Check.due("13: 3 before 4", x.reason(0), 3);
        Check.yes("step", x.step(0, 8, -1, 5));
        Check.due("13: 2 before 3 and 4", x.reason(0), 2);
        Check.yes("anew", x.drop(0) && x.step(0, 8, -1, 5) && x.output(0, 10) && x.input(0, 5));
        Check.due("13: 1 before 3 and 4", x.reason(0), 1);
        BuildDesk y = made();
        Check.yes("changes", y.output(0, 11) && y.spoil(1));
        Check.due("13: 2 before 3 and 4, by an OUTPUT", y.reason(0), 2);
    }

    private static void inputs() {
        BuildDesk x = new BuildDesk();
        Check.tell(x, 3, 7, 5, 10, 0, 1, 2, 3, 4, 5);
        Check.yes("outputs", x.output(3, 11) && x.output(3, 12));
        for (int file = 0; file <= 5; file++) {
            Check.yes("source", x.source(file, 100));
        }
        Check.answers("build", 5, () -> x.build(12, 1));
        for (int file = 0; file <= 5; file++) {
            Check.yes("source", x.source(file, 101));
            Check.due("13: INPUT " + file, x.reason(3), 4);
            Check.yes("source", x.source(file, 100));
            Check.due("13: back", x.reason(3), 0);
        }
        for (int file = 10; file <= 12; file++) {
            Check.yes("spoil", x.spoil(file));
            Check.due("13: OUTPUT " + file, x.reason(3), 3);
            Check.answers("build", 5, () -> x.build(10, 1));
            Check.due("13: made again", x.reason(3), 0);
        }
        Check.tell(x, 4, 1, 1, 20, 10);
        Check.answers("build", 1, () -> x.build(20, 1));
        Check.yes("source", x.source(0, 101));
        Check.due("13: whatever other steps do", x.reason(4), 0);
    }

    private static void reasonsOfBegun() {
        BuildDesk x = made();
        Check.yes("source", x.source(2, 0));
        Check.answers("build", 5, () -> x.build(10, 3));
        Check.due("10: 4", Check.row(x, 0), "0 0 5 0 4");
        Check.yes("spoil", x.spoil(10));
        Check.answers("build", 5, () -> x.build(10, 3));
        Check.due("10: 3", Check.row(x, 0), "0 0 5 0 3");
        Check.yes("input", x.input(0, 1));
        Check.answers("build", 5, () -> x.build(10, 3));
        Check.due("10: 2", Check.row(x, 0), "0 0 5 0 2");
        Check.yes("anew", x.drop(0) && x.step(0, 8, -1, 6) && x.output(0, 10));
        Check.answers("build", 6, () -> x.build(10, 3));
        Check.due("10: 1", Check.row(x, 0), "0 0 6 0 1");
        Check.due("13: made", x.reason(0), 0);
    }
}
