import java.util.NoSuchElementException;

/** Promises 8, 9 and 10: building, in which order, by whom, and what is told of it. */
public final class BuildingTest {
    public static void main(String[] args) {
        arguments();
        sources();
        contents();
        workersShare();
        rankGoesFirst();
        rankCountsNeededAlone();
        workersFreedTogether();
        passedOver();
        comesOutTheSame();
        lookedAtWhenReady();
        longestChain();
        eightWorkers();
        counts();
        rows();
        Check.end();
    }

    private static void arguments() {
        BuildDesk x = new BuildDesk();
        Check.yes("8: sources", x.source(0, 1) && x.source(63, 1));
        for (int file : new int[] {-1, 64, Integer.MIN_VALUE, Integer.MAX_VALUE}) {
            Check.refuses("8: file " + file, IllegalArgumentException.class, () -> x.build(file, 1));
        }
        for (int workers : new int[] {0, 9, -1, Integer.MIN_VALUE, Integer.MAX_VALUE}) {
            Check.refuses("8: workers " + workers, IllegalArgumentException.class, () -> x.build(0, workers));
            Check.refuses("8: workers before CONTENT", IllegalArgumentException.class, () -> x.build(1, workers));
        }
        Check.answers("8: file 0, 1 worker", 0, () -> x.build(0, 1));
        Check.answers("8: file 63, 8 workers", 0, () -> x.build(63, 8));
        Check.tell(x, 0, 1, 1, 5, 5);
        Check.refuses("8: workers before a round", IllegalArgumentException.class, () -> x.build(5, 9));
        Check.refuses("8: no round was told", NoSuchElementException.class, () -> x.cycle(0));
    }

    private static void sources() {
        BuildDesk x = new BuildDesk();
        Check.refuses("8: a SOURCE without CONTENT", IllegalStateException.class, () -> x.build(3, 1));
        Check.tell(x, 0, 1, 7, 10, 3);
        Check.tell(x, 1, 1, 8, 11, 10, 4);
        Check.yes("8: source", x.source(3, 5));
        Check.refuses("8: an INPUT without CONTENT", IllegalStateException.class, () -> x.build(11, 1));
        Check.refuses("8: nothing was made", NoSuchElementException.class, () -> x.content(10));
        Check.answers("8: one that doesn't need it", 7, () -> x.build(10, 1));
        Check.due("8: needed", x.count(0), 1);
        Check.answers("8: a SOURCE with CONTENT", 0, () -> x.build(3, 2));
        Check.due("9: of a SOURCE: needed", x.count(0), 0);
        Check.due("9: begun", x.count(1), 0);
        Check.due("9: busy", x.count(2), 0);
        Check.due("9: greatest RANK", x.count(3), 0);
        Check.refuses("10: none began", NoSuchElementException.class, () -> x.begun(0, 0));
        Check.yes("8: source", x.source(4, 5));
        Check.answers("8: the first is not due any more", 8, () -> x.build(11, 1));
        Check.yes("8: spoil", x.spoil(4));
        Check.refuses("8: spoilt though it was made", IllegalStateException.class, () -> x.build(11, 1));
        Check.yes("8: the least step's INPUT alone", x.source(4, 5) && x.spoil(3));
        Check.refuses("8: it lacks", IllegalStateException.class, () -> x.build(11, 1));
        Check.tell(x, 39, 1, 1, 12, 3);
        Check.refuses("8: the greatest step's INPUT lacks", IllegalStateException.class, () -> x.build(12, 1));
    }

    private static void contents() {
        BuildDesk x = new BuildDesk();
        Check.yes("step", x.step(0, Integer.MAX_VALUE, -1, 1));
        Check.yes("outputs", x.output(0, 1) && x.output(0, 2) && x.output(0, 3));
        Check.answers("8: build", 1, () -> x.build(3, 1));
        Check.answers("8: h", Integer.MAX_VALUE, () -> x.content(1));
        Check.answers("8: h + 1 wraps", Integer.MIN_VALUE, () -> x.content(2));
        Check.answers("8: h + 2", Integer.MIN_VALUE + 1, () -> x.content(3));
        Check.yes("step", x.step(1, 0x12345678, 0xff00ff, 1));
        Check.yes("files", x.input(1, 2) && x.input(1, 3) && x.output(1, 4) && x.output(1, 5));
        int h = ((0x12345678 ^ Integer.MIN_VALUE) * 16777619 ^ Integer.MIN_VALUE + 1) * 16777619;
        Check.answers("8: build", 1, () -> x.build(4, 1));
        Check.answers("8: masked", h & 0xff00ff, () -> x.content(4));
        Check.answers("8: masked, next", h + 1 & 0xff00ff, () -> x.content(5));
    }

    private static BuildDesk threeIntoOne() {
        BuildDesk x = new BuildDesk();
        Check.tell(x, 10, 1, 5, 10);
        Check.tell(x, 11, 2, 3, 11);
        Check.tell(x, 12, 3, 3, 12);
        Check.tell(x, 20, 4, 2, 20, 12, 11, 10);
        return x;
    }

    private static void workersShare() {
        BuildDesk one = threeIntoOne();
        Check.answers("8: one worker", 13, () -> one.build(20, 1));
        rowsAre("one worker", one, "10 0 5 0 1", "11 5 8 0 1", "12 8 11 0 1", "20 11 13 0 1");
        BuildDesk two = threeIntoOne();
        Check.answers("8: two workers", 8, () -> two.build(20, 2));
        rowsAre("two workers", two, "10 0 5 0 1", "11 0 3 1 1", "12 3 6 1 1", "20 6 8 0 1");
        BuildDesk three = threeIntoOne();
        Check.answers("8: three workers", 7, () -> three.build(20, 3));
        rowsAre("three workers", three, "10 0 5 0 1", "11 0 3 1 1", "12 0 3 2 1", "20 5 7 0 1");
        BuildDesk eight = threeIntoOne();
        Check.answers("8: eight workers", 7, () -> eight.build(20, 8));
        for (int what = 0; what <= 3; what++) {
            Check.due("9: count " + what, eight.count(what), new int[] {4, 4, 13, 7}[what]);
        }
    }

    private static void rowsAre(String what, BuildDesk x, String... rows) {
        Check.due("9: begun, " + what, x.count(1), rows.length);
        for (int k = 0; k < rows.length; k++) {
            Check.due("10: row " + k + ", " + what, Check.row(x, k), rows[k]);
        }
        Check.refuses("10: beyond, " + what, NoSuchElementException.class, () -> x.begun(rows.length, 0));
    }

    private static void rankGoesFirst() {
        BuildDesk x = new BuildDesk();
        Check.tell(x, 0, 1, 9, 10);
        Check.tell(x, 1, 2, 1, 11);
        Check.tell(x, 2, 3, 8, 12, 11);
        Check.tell(x, 3, 4, 1, 13, 12);
        Check.tell(x, 4, 5, 1, 14, 10, 13);
        Check.answers("8: build", 20, () -> x.build(14, 1));
        Check.due("9: greatest RANK", x.count(3), 11);
        rowsAre("RANK before number", x, "1 0 1 0 1", "0 1 10 0 1", "2 10 18 0 1", "3 18 19 0 1", "4 19 20 0 1");
    }

    private static void rankCountsNeededAlone() {
        BuildDesk x = new BuildDesk();
        Check.tell(x, 0, 1, 2, 10);
        Check.tell(x, 1, 2, 3, 11);
        Check.tell(x, 2, 3, 1, 12, 10, 11);
        Check.tell(x, 3, 4, 100, 13, 10);
        Check.answers("8: build", 6, () -> x.build(12, 1));
        rowsAre("a step that is not NEEDED gives no RANK", x, "1 0 3 0 1", "0 3 5 0 1", "2 5 6 0 1");
        Check.due("9: needed", x.count(0), 3);
        Check.due("9: greatest RANK", x.count(3), 4);
        Check.due("13: the other was not made", x.reason(3), 1);
    }

    private static void workersFreedTogether() {
        BuildDesk x = new BuildDesk();
        Check.tell(x, 5, 1, 4, 15);
        Check.tell(x, 6, 2, 4, 16);
        Check.tell(x, 7, 3, 2, 17, 15);
        Check.tell(x, 8, 4, 3, 18, 16);
        Check.tell(x, 9, 5, 1, 19, 17, 18);
        Check.answers("8: build", 8, () -> x.build(19, 2));
        rowsAre("both end, the greater RANK takes worker 0", x,
                "6 0 4 0 1", "5 0 4 1 1", "8 4 7 0 1", "7 4 6 1 1", "9 7 8 0 1");
    }

    private static void passedOver() {
        BuildDesk x = new BuildDesk();
        Check.tell(x, 0, 1, 1, 10, 1);
        Check.tell(x, 1, 2, 2, 11, 10);
        Check.tell(x, 2, 3, 4, 12, 11);
        Check.yes("source", x.source(1, 9));
        Check.answers("8: build", 7, () -> x.build(12, 1));
        Check.answers("8: nothing is due", 0, () -> x.build(12, 1));
        Check.due("9: needed", x.count(0), 3);
        Check.due("9: begun", x.count(1), 0);
        Check.due("9: busy", x.count(2), 0);
        Check.due("9: greatest RANK all the same", x.count(3), 7);
        Check.refuses("10: what was told goes", NoSuchElementException.class, () -> x.begun(0, 0));
        Check.yes("spoil", x.spoil(12));
        Check.answers("8: the last one alone", 4, () -> x.build(12, 1));
        rowsAre("done at once, time 0", x, "2 0 4 0 3");
        Check.yes("spoil", x.spoil(10));
        Check.answers("8: the first one alone, it comes out the same", 1, () -> x.build(12, 1));
        rowsAre("the first alone", x, "0 0 1 0 3");
    }

    private static void comesOutTheSame() {
        BuildDesk x = new BuildDesk();
        Check.yes("step", x.step(39, 1, 0, 10));
        Check.yes("files", x.input(39, 0) && x.output(39, 1));
        Check.tell(x, 38, 1, 10, 2, 1);
        Check.yes("source", x.source(0, 1));
        Check.answers("8: build", 20, () -> x.build(2, 1));
        Check.yes("source", x.source(0, 2));
        Check.answers("8: MASK 0 hides the change", 10, () -> x.build(2, 1));
        rowsAre("comes out the same", x, "39 0 10 0 4");
        Check.due("9: needed", x.count(0), 2);
        Check.due("9: busy", x.count(2), 10);
    }

    /** A step may become READY in the midst of it, be passed over, and make another one READY. */
    private static void lookedAtWhenReady() {
        BuildDesk x = new BuildDesk();
        Check.yes("step", x.step(0, 1, 0, 3));
        Check.yes("files", x.input(0, 0) && x.output(0, 10));
        Check.tell(x, 1, 1, 5, 11, 10);
        Check.tell(x, 2, 1, 2, 12, 1);
        Check.tell(x, 3, 1, 4, 13, 11, 12);
        Check.yes("sources", x.source(0, 1) && x.source(1, 1));
        Check.answers("8: build", 12, () -> x.build(13, 2));
        Check.yes("changes", x.source(0, 2) && x.source(1, 2));
        Check.answers("8: build", 7, () -> x.build(13, 2));
        rowsAre("passed over at 3", x, "0 0 3 0 4", "2 0 2 1 4", "3 3 7 0 4");
    }

    private static void longestChain() {
        BuildDesk x = new BuildDesk();
        for (int s = 0; s < 40; s++) {
            Check.tell(x, s, s, 100, s);
        }
        for (int s = 0; s < 39; s++) {
            Check.yes("input", x.input(s, s + 1));
        }
        Check.answers("8: build", 4000, () -> x.build(0, 8));
        Check.due("9: needed", x.count(0), 40);
        Check.due("9: begun", x.count(1), 40);
        Check.due("9: busy", x.count(2), 4000);
        Check.due("9: greatest RANK", x.count(3), 4000);
        Check.due("9: steps", x.count(5), 40);
        Check.due("10: first", Check.row(x, 0), "39 0 100 0 1");
        Check.due("10: last", Check.row(x, 39), "0 3900 4000 0 1");
        Check.refuses("10: beyond", NoSuchElementException.class, () -> x.begun(40, 0));
        Check.answers("8: again", 0, () -> x.build(0, 1));
    }

    private static void eightWorkers() {
        BuildDesk x = new BuildDesk();
        for (int s = 0; s < 12; s++) {
            Check.tell(x, s, s, 10, s);
        }
        Check.tell(x, 20, 1, 1, 20, 0, 1, 2, 3, 4, 5);
        Check.tell(x, 21, 1, 1, 21, 6, 7, 8, 9, 10, 11);
        Check.tell(x, 22, 1, 1, 22, 20, 21);
        Check.answers("8: build", 22, () -> x.build(22, 8));
        for (int k = 0; k < 8; k++) {
            Check.due("10: row " + k, Check.row(x, k), k + " 0 10 " + k + " 1");
        }
        // At 10 step 20 is READY too, but its RANK is less than that of 8 to 11.
        for (int k = 8; k < 12; k++) {
            Check.due("10: row " + k, Check.row(x, k), k + " 10 20 " + (k - 8) + " 1");
        }
        Check.due("10: row 12", Check.row(x, 12), "20 10 11 4 1");
        Check.due("10: row 13", Check.row(x, 13), "21 20 21 0 1");
        Check.due("10: row 14", Check.row(x, 14), "22 21 22 0 1");
        Check.due("9: busy", x.count(2), 123);
    }

    private static void counts() {
        BuildDesk x = threeIntoOne();
        for (int what : new int[] {-1, 6, Integer.MIN_VALUE, Integer.MAX_VALUE}) {
            Check.due("9: count " + what, x.count(what), BuildDesk.NONE);
        }
        Check.due("9: needed before a build", x.count(0), 0);
        Check.due("9: files with CONTENT", x.count(4), 0);
        Check.due("9: steps", x.count(5), 4);
        Check.answers("8: build", 13, () -> x.build(20, 1));
        Check.due("9: files with CONTENT now", x.count(4), 4);
        Check.yes("later", x.drop(20) && x.spoil(20) && x.spoil(10) && x.step(30, 1, 1, 1) && x.step(31, 1, 1, 1));
        Check.due("9: needed stays", x.count(0), 4);
        Check.due("9: begun stays", x.count(1), 4);
        Check.due("9: busy stays", x.count(2), 13);
        Check.due("9: greatest RANK stays", x.count(3), 7);
        Check.due("9: files with CONTENT now", x.count(4), 2);
        Check.due("9: steps now", x.count(5), 5);
    }

    private static void rows() {
        BuildDesk x = threeIntoOne();
        Check.answers("8: build", 13, () -> x.build(20, 1));
        for (int what : new int[] {-1, 5, Integer.MIN_VALUE, Integer.MAX_VALUE}) {
            Check.refuses("10: what " + what, NoSuchElementException.class, () -> x.begun(0, what));
            Check.refuses("10: k and what " + what, NoSuchElementException.class, () -> x.begun(1, what));
        }
        for (int k : new int[] {-1, 4, 40, 1 << 30, Integer.MIN_VALUE, Integer.MAX_VALUE}) {
            Check.refuses("10: k " + k, NoSuchElementException.class, () -> x.begun(k, 0));
        }
        Check.yes("told otherwise", x.step(10, 9, 9, 50));
        Check.due("10: it stays as it was", Check.row(x, 0), "10 0 5 0 1");
    }
}
