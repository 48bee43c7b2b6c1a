import java.util.NoSuchElementException;

/** Promise 11 and the rounds of promise 8. */
public final class RoundTest {
    public static void main(String[] args) {
        roundOfOne();
        roundOfAll();
        leastOfNeeded();
        leastWaitsForARoundButNotForItself();
        shortest();
        leastDiffering();
        outsideOfNeeded();
        staysTold();
        beforeMissingSource();
        Check.end();
    }

    private static void refused(String what, BuildDesk x, int file, String round) {
        Check.refuses("8: " + what, IllegalStateException.class, () -> x.build(file, 1));
        Check.due("11: " + what, Check.roundOf(x), round);
        for (int i : new int[] {-1, 40, Integer.MIN_VALUE, Integer.MAX_VALUE}) {
            Check.refuses("11: step " + i, NoSuchElementException.class, () -> x.cycle(i));
        }
    }

    private static void roundOfOne() {
        BuildDesk x = new BuildDesk();
        Check.tell(x, 39, 1, 1, 63, 63);
        refused("a step that takes what it makes", x, 63, "39");
        Check.tell(x, 0, 1, 1, 0, 63);
        refused("one that waits for it", x, 0, "39");
    }

    private static void roundOfAll() {
        BuildDesk x = new BuildDesk();
        StringBuilder all = new StringBuilder();
        for (int s = 0; s < 40; s++) {
            Check.tell(x, s, 1, 1, s, (s + 1) % 40);
            all.append(s).append(' ');
        }
        refused("all forty", x, 20, all.toString().trim());
    }

    private static void leastOfNeeded() {
        BuildDesk x = new BuildDesk();
        Check.tell(x, 1, 1, 1, 1, 2);
        Check.tell(x, 2, 1, 1, 2, 1);
        Check.tell(x, 5, 1, 1, 5, 6);
        Check.tell(x, 6, 1, 1, 6, 7);
        Check.tell(x, 7, 1, 1, 7, 5);
        Check.tell(x, 9, 1, 1, 9, 7, 2);
        refused("the round of 5 alone is NEEDED", x, 6, "5 6 7");
        refused("both are NEEDED: the least step's", x, 9, "1 2");
    }

    private static void leastWaitsForARoundButNotForItself() {
        BuildDesk x = new BuildDesk();
        Check.tell(x, 0, 1, 1, 10, 13);
        Check.tell(x, 3, 1, 1, 13, 14);
        Check.tell(x, 4, 1, 1, 14, 13, 15);
        Check.tell(x, 1, 1, 1, 15);
        refused("0 waits for a round that it is not in", x, 10, "3 4");
    }

    private static void shortest() {
        BuildDesk x = new BuildDesk();
        Check.tell(x, 0, 1, 1, 10, 11, 15);
        Check.tell(x, 1, 1, 1, 11, 12);
        Check.tell(x, 2, 1, 1, 12, 13);
        Check.tell(x, 3, 1, 1, 13, 10);
        Check.tell(x, 5, 1, 1, 15, 16);
        Check.tell(x, 6, 1, 1, 16, 10);
        refused("three rather than four", x, 10, "0 5 6");
        Check.yes("input", x.input(6, 16));
        refused("not the shorter round of another", x, 10, "0 5 6");
        Check.yes("input", x.input(2, 10));
        refused("as short, but less", x, 10, "0 1 2");
        Check.yes("input", x.input(0, 10));
        refused("a round of one", x, 10, "0");
    }

    private static void leastDiffering() {
        BuildDesk x = new BuildDesk();
        Check.tell(x, 0, 1, 1, 10, 14, 13);
        Check.tell(x, 3, 1, 1, 13, 19, 16);
        Check.tell(x, 4, 1, 1, 14, 11);
        Check.tell(x, 1, 1, 1, 11, 10);
        Check.tell(x, 6, 1, 1, 16, 10);
        Check.tell(x, 9, 1, 1, 19, 10);
        refused("3 before 4, then 6 before 9", x, 10, "0 3 6");
        refused("whatever is built", x, 19, "0 3 6");
    }

    private static void outsideOfNeeded() {
        BuildDesk x = new BuildDesk();
        Check.tell(x, 0, 1, 2, 10);
        Check.tell(x, 1, 1, 2, 11, 10, 12);
        Check.tell(x, 2, 1, 2, 12, 11);
        Check.answers("8: a round that is not NEEDED", 2, () -> x.build(10, 1));
        Check.refuses("11: no round", NoSuchElementException.class, () -> x.cycle(0));
        refused("NEEDED", x, 12, "1 2");
        Check.yes("drop", x.drop(2));
        Check.yes("source", x.source(12, 1));
        Check.answers("8: the round is gone", 2, () -> x.build(11, 1));
    }

    /** cycle() tells of the last build() that was refused for a round, whatever came behind it. */
    private static void staysTold() {
        BuildDesk x = new BuildDesk();
        Check.tell(x, 0, 1, 2, 10);
        Check.tell(x, 1, 1, 2, 11, 12);
        Check.tell(x, 2, 1, 2, 12, 11);
        Check.tell(x, 3, 1, 2, 13, 13);
        Check.tell(x, 4, 1, 2, 14, 5);
        refused("two", x, 12, "1 2");
        Check.answers("8: build", 2, () -> x.build(10, 1));
        Check.due("11: stays behind one that is BUILT", Check.roundOf(x), "1 2");
        Check.refuses("8: no CONTENT", IllegalStateException.class, () -> x.build(14, 1));
        Check.refuses("8: no file", IllegalArgumentException.class, () -> x.build(64, 1));
        Check.due("11: stays behind other refusals", Check.roundOf(x), "1 2");
        Check.yes("drop", x.drop(1));
        Check.due("11: stays behind drop()", Check.roundOf(x), "1 2");
        refused("a shorter one takes its place", x, 13, "3");
        Check.due("9: BUILT stays told", x.count(1), 1);
        Check.due("10: BUILT stays told", Check.row(x, 0), "0 0 2 0 1");
    }

    private static void beforeMissingSource() {
        BuildDesk x = new BuildDesk();
        Check.tell(x, 0, 1, 2, 10, 1, 11);
        Check.tell(x, 1, 1, 2, 11, 10);
        refused("a round and a SOURCE without CONTENT", x, 10, "0 1");
    }
}
