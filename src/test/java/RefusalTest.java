/** Each call that is refused changes what the document says, and nothing else. */
public final class RefusalTest {
    public static void main(String[] args) {
        tellings();
        arguments();
        missingSource();
        round();
        questions();
        Check.end();
    }

    private static void tellings() {
        BuildDesk x = Edge.used();
        String before = Check.allOf(x);
        Check.no("step", x.step(40, 1, 1, 1) || x.step(-1, 1, 1, 1));
        Check.no("DURATION", x.step(0, 1, 1, 0) || x.step(0, 1, 1, 101) || x.step(20, 1, 1, 0));
        Check.no("input", x.input(0, 3) || x.input(1, 64) || x.input(1, -1) || x.input(20, 1));
        Check.no("output", x.output(0, 30) || x.output(1, 64) || x.output(1, -1));
        Check.no("output", x.output(1, 10) || x.output(1, 13) || x.output(20, 30));
        Check.no("drop", x.drop(20) || x.drop(-1) || x.drop(40));
        Check.no("source", x.source(10, 1) || x.source(64, 1) || x.source(-1, 1));
        Check.no("spoil", x.spoil(30) || x.spoil(64) || x.spoil(-1));
        Check.due("nothing changed", Check.allOf(x), before);
    }

    private static void arguments() {
        BuildDesk x = Edge.used();
        String before = Check.allOf(x);
        Check.refuses("file", IllegalArgumentException.class, () -> x.build(64, 1));
        Check.refuses("file", IllegalArgumentException.class, () -> x.build(-1, 1));
        Check.refuses("workers", IllegalArgumentException.class, () -> x.build(13, 0));
        Check.refuses("workers", IllegalArgumentException.class, () -> x.build(13, 9));
        Check.refuses("workers", IllegalArgumentException.class, () -> x.build(17, 9));
        Check.due("8: nothing changed", Check.allOf(x), before);
    }

    private static void missingSource() {
        BuildDesk x = Edge.used();
        String before = Check.allOf(x);
        Check.refuses("the file", IllegalStateException.class, () -> x.build(30, 1));
        Check.refuses("an input", IllegalStateException.class, () -> x.build(18, 1));
        Check.due("8: nothing changed at all", Check.allOf(x), before);
    }

    private static void round() {
        BuildDesk x = Edge.used();
        String before = Check.allOf(x);
        Check.due("11: round", Check.roundOf(x), "5 6");
        Check.refuses("round", IllegalStateException.class, () -> x.build(17, 1));
        Check.due("8: cycle() is told, nothing else",
                Check.allOf(x), before.replace("round 5 6\n", "round 7\n"));
    }

    private static void questions() {
        BuildDesk x = Edge.used();
        String before = Check.allOf(x);
        Check.due("count", x.count(6), BuildDesk.NONE);
        Check.due("reason", x.reason(40), BuildDesk.NONE);
        Check.outcome(() -> x.begun(9, 9));
        Check.outcome(() -> x.cycle(9));
        Check.outcome(() -> x.content(64));
        Check.due("nothing changed", Check.allOf(x), before);
    }
}
