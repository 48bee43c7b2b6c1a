import java.util.NoSuchElementException;

/** Each sentence of BUILDING and of promise 8 that names an edge, or has one, by a test of its own. */
public final class EdgesOfBuildTest {
    public static void main(String[] args) {
        noStepIsNeeded();
        neededByAnyOutput();
        neededOnceByTwoWays();
        allFortyAreNeeded();
        otherStepsAreNotNeeded();
        readyWhenAllAreDone();
        eachNumberOfWorkers();
        moreWorkersThanSteps();
        moreReadyThanWorkers();
        severalEndAtOneTime();
        notDueAtTimeZero();
        notDueAtTheLastEnd();
        notDueMakesOthersReady();
        dueBySpoiltOutputInside();
        greatestRankBegins();
        ofSeveralTheLeastNumber();
        leastFreeWorkerBegins();
        rankOfTheLongestWay();
        rankIsDurationAtLeast();
        rankOfNotDueCounts();
        whatWasToldGoes();
        sourceIsBuilt();
        timeAtTheEnd();
        noSuchFile();
        noSuchWorkers();
        bothWrong();
        wrongArgumentsBeforeState();
        roundTellsCycleAlone();
        roundBeforeLackingSource();
        roundThatIsNotNeeded();
        inputLacks();
        eachInputMayLack();
        inputLacksOfStepNotDue();
        inputLacksOfStepNotNeeded();
        outputThatLacksIsMade();
        fileItselfLacks();
        lackingSourceMakesNothing();
        lastCallOf512();
        Check.end();
    }

    private static void built(String what, BuildDesk x, int file, int workers, int time) {
        Check.answers("8: " + what, time, () -> x.build(file, workers));
    }

    private static void counts(String what, BuildDesk x, int needed, int begun, int busy, int rank) {
        Check.due("9: needed, " + what, x.count(0), needed);
        Check.due("9: begun, " + what, x.count(1), begun);
        Check.due("9: busy, " + what, x.count(2), busy);
        Check.due("9: greatest RANK, " + what, x.count(3), rank);
    }

    private static void rows(String what, BuildDesk x, String... rows) {
        Check.due("9: begun, " + what, x.count(1), rows.length);
        for (int k = 0; k < rows.length; k++) {
            Check.due("10: row " + k + ", " + what, Check.row(x, k), rows[k]);
        }
    }

    /** Steps 0 to width - 1 (30 at most); six each are joined by one from 34 on, and these by 39. */
    private static BuildDesk wide(int width, int duration) {
        BuildDesk x = new BuildDesk();
        for (int s = 0; s < width; s++) {
            Check.tell(x, s, s, duration, s);
        }
        Check.tell(x, 39, 1, 1, 39);
        for (int first = 0; first < width; first += 6) {
            int joint = 34 + first / 6;
            Check.tell(x, joint, 1, 1, joint);
            Check.yes("joint", x.input(39, joint));
            for (int s = first; s < width && s < first + 6; s++) {
                Check.yes("joint", x.input(joint, s));
            }
        }
        return x;
    }

    /** "NEEDED are the step of which it is an OUTPUT": for a SOURCE there is none. */
    private static void noStepIsNeeded() {
        BuildDesk x = Edge.used();
        built("a SOURCE", x, 1, 1, 0);
        counts("a SOURCE", x, 0, 0, 0, 0);
        rows("a SOURCE", x);
    }

    /** The same, by its first, its second or its third OUTPUT. */
    private static void neededByAnyOutput() {
        for (int file = 10; file <= 12; file++) {
            BuildDesk x = Edge.used();
            built("OUTPUT " + file, x, file, 1, 5);
            counts("OUTPUT " + file, x, 1, 1, 5, 5);
            Check.tell(x, 30, 1, 1, 40, file);
            built("what takes OUTPUT " + file, x, 40, 1, 1);
            counts("what takes OUTPUT " + file, x, 2, 1, 1, 6);
        }
    }

    /** "the steps of whose OUTPUTS a NEEDED step has one as INPUT": once, by however many ways. */
    private static void neededOnceByTwoWays() {
        BuildDesk x = new BuildDesk();
        Check.tell(x, 0, 1, 4, 10);
        Check.yes("outputs", x.output(0, 11) && x.output(0, 12));
        Check.tell(x, 1, 1, 2, 13, 10, 11, 12, 10);
        Check.tell(x, 2, 1, 2, 14, 10, 13, 13);
        built("by several ways", x, 14, 8, 8);
        counts("by several ways", x, 3, 3, 8, 8);
    }

    /** All steps there are, each as long as can be, one behind the other. */
    private static void allFortyAreNeeded() {
        BuildDesk x = new BuildDesk();
        for (int s = 0; s < 40; s++) {
            Check.tell(x, s, s, 100, s);
        }
        for (int s = 1; s < 40; s++) {
            Check.yes("input", x.input(s, s - 1));
        }
        built("forty", x, 39, 1, 4000);
        counts("forty", x, 40, 40, 4000, 4000);
        Check.due("10: last", Check.row(x, 39), "39 3900 4000 0 1");
        Check.refuses("10: behind the last", NoSuchElementException.class, () -> x.begun(40, 0));
        built("forty again", x, 39, 8, 0);
        counts("forty again", x, 40, 0, 0, 4000);
    }

    /** The same: neither one that takes of a NEEDED step nor one beside it. */
    private static void otherStepsAreNotNeeded() {
        BuildDesk x = new BuildDesk();
        Check.tell(x, 0, 1, 4, 10);
        Check.tell(x, 1, 1, 100, 11, 10);
        Check.tell(x, 2, 1, 100, 12);
        built("alone", x, 10, 8, 4);
        counts("alone", x, 1, 1, 4, 4);
        Check.due("13: one that takes it", x.reason(1), 1);
        Check.due("13: one beside it", x.reason(2), 1);
    }

    /** "A NEEDED step is READY when all NEEDED steps [..] are done": not when the first one is. */
    private static void readyWhenAllAreDone() {
        BuildDesk x = new BuildDesk();
        for (int s = 0; s < 6; s++) {
            Check.tell(x, s, 1, 10 * (s + 1), s);
        }
        Check.tell(x, 6, 1, 1, 6, 0, 1, 2, 3, 4, 5);
        built("six to wait for", x, 6, 8, 61);
        Check.due("10: behind the last of six", Check.row(x, 6), "6 60 61 0 1");
    }

    /** "with W workers (0 .. W - 1)": 24 steps of 10, by each number of them. */
    private static void eachNumberOfWorkers() {
        int[] times = {245, 123, 83, 62, 52, 42, 42, 32};
        for (int workers = 1; workers <= 8; workers++) {
            BuildDesk x = wide(24, 10);
            final int w = workers;
            built(w + " workers", x, 39, w, times[w - 1]);
            counts(w + " workers", x, 29, 29, 245, 12);
            int last = 0;
            for (int k = 0; k < x.count(1); k++) {
                last = Math.max(last, x.begun(k, 3));
            }
            Check.due("10: the last of " + w + " workers", last, w - 1);
        }
    }

    /** "and a READY step is DUE and has not begun": workers without one stay free. */
    private static void moreWorkersThanSteps() {
        BuildDesk x = wide(3, 10);
        built("three by eight", x, 39, 8, 12);
        rows("three by eight", x, "0 0 10 0 1", "1 0 10 1 1", "2 0 10 2 1", "34 10 11 0 1", "39 11 12 0 1");
    }

    /** "as long as a worker is free": the ninth of nine READY steps waits for an end. */
    private static void moreReadyThanWorkers() {
        BuildDesk x = wide(9, 10);
        built("nine by eight", x, 39, 8, 22);
        for (int k = 0; k < 8; k++) {
            Check.due("10: row " + k + " of nine", Check.row(x, k), k + " 0 10 " + k + " 1");
        }
        Check.due("10: the ninth", Check.row(x, 8), "8 10 20 0 1");
    }

    /** "steps that end then end": all workers are free before the next one begins. */
    private static void severalEndAtOneTime() {
        BuildDesk x = new BuildDesk();
        for (int s = 0; s < 8; s++) {
            Check.tell(x, s, 1, 10, s);
            Check.tell(x, 8 + s, 1, 1 + s, 8 + s, s);
        }
        Check.tell(x, 16, 1, 1, 16, 8, 9, 10, 11, 12);
        Check.tell(x, 17, 1, 1, 17, 13, 14, 15, 16);
        built("eight at once", x, 17, 8, 19);
        for (int k = 0; k < 16; k++) {
            Check.due("10: eight at once, began " + k, x.begun(k, 1), k < 8 ? 0 : 10);
            Check.due("10: eight at once, worker " + k, x.begun(k, 3), k % 8);
        }
    }

    /** "Time begins at 0." and "READY steps that are not DUE are done at once": all of them. */
    private static void notDueAtTimeZero() {
        BuildDesk x = Edge.used();
        built("to begin with", x, 13, 1, 8);
        built("nothing is DUE", x, 13, 1, 0);
        counts("nothing is DUE", x, 2, 0, 0, 8);
        rows("nothing is DUE", x);
    }

    /** The time at the end is the last end, though steps are done behind it at the same time. */
    private static void notDueAtTheLastEnd() {
        BuildDesk x = new BuildDesk();
        Check.yes("step", x.step(0, 1, 0, 10) && x.output(0, 10) && x.input(0, 1) && x.source(1, 1));
        Check.tell(x, 1, 1, 20, 11, 10);
        Check.tell(x, 2, 1, 40, 12, 11);
        built("all", x, 12, 1, 70);
        Check.yes("source", x.source(1, 2));
        built("it came out the same", x, 12, 1, 10);
        rows("it came out the same", x, "0 0 10 0 4");
        Check.due("13: nor is the next one DUE", x.reason(1), 0);
    }

    /** "(this may make others READY)": at the same time, against the order of their numbers. */
    private static void notDueMakesOthersReady() {
        BuildDesk x = new BuildDesk();
        for (int s = 0; s < 40; s++) {
            Check.tell(x, s, s, 1, s);
        }
        for (int s = 0; s < 39; s++) {
            Check.yes("input", x.input(s, s + 1));
        }
        built("forty", x, 0, 1, 40);
        Check.yes("spoil", x.spoil(0));
        built("the last of forty", x, 0, 1, 1);
        rows("the last of forty", x, "0 0 1 0 3");
    }

    /** An OUTPUT that lacks is no lacking SOURCE: its step is DUE, and those behind may not be. */
    private static void dueBySpoiltOutputInside() {
        BuildDesk x = Edge.used();
        built("to begin with", x, 13, 1, 8);
        Check.yes("spoil", x.spoil(10));
        Check.due("13: the one behind would be DUE now", x.reason(1), 4);
        built("the one before alone", x, 13, 1, 5);
        rows("the one before alone", x, "0 0 5 0 3");
    }

    /** "begins the one with the greatest RANK": by 1, though its own DURATION is the least. */
    private static void greatestRankBegins() {
        BuildDesk x = new BuildDesk();
        Check.tell(x, 0, 1, 100, 10);
        Check.tell(x, 1, 1, 1, 11);
        Check.tell(x, 2, 1, 100, 12, 11);
        Check.tell(x, 3, 1, 1, 13, 10, 12);
        built("RANK 102 before 101", x, 13, 1, 202);
        rows("RANK 102 before 101", x, "1 0 1 0 1", "0 1 101 0 1", "2 101 201 0 1", "3 201 202 0 1");
    }

    /** "of several the one with the least number". */
    private static void ofSeveralTheLeastNumber() {
        BuildDesk x = new BuildDesk();
        Check.tell(x, 39, 1, 5, 10);
        Check.tell(x, 0, 1, 5, 11);
        Check.tell(x, 20, 1, 5, 12);
        Check.tell(x, 1, 1, 1, 13, 12, 11, 10);
        built("RANK 6 each", x, 13, 1, 16);
        rows("RANK 6 each", x, "0 0 5 0 1", "20 5 10 0 1", "39 10 15 0 1", "1 15 16 0 1");
    }

    /** "the free worker with the least number begins": not the one that was free first. */
    private static void leastFreeWorkerBegins() {
        BuildDesk x = new BuildDesk();
        Check.tell(x, 0, 1, 9, 10);
        Check.tell(x, 1, 1, 3, 11);
        Check.tell(x, 2, 1, 2, 12);
        Check.tell(x, 3, 1, 1, 13, 10, 11, 12);
        Check.tell(x, 4, 1, 1, 14, 12);
        Check.tell(x, 5, 1, 1, 15, 11);
        Check.tell(x, 6, 1, 1, 16, 13, 14, 15);
        built("workers 2, 1, 0", x, 16, 3, 11);
        rows("workers 2, 1, 0", x, "0 0 9 0 1", "1 0 3 1 1", "2 0 2 2 1", "4 2 3 2 1",
                "5 3 4 1 1", "3 9 10 0 1", "6 10 11 0 1");
    }

    /** "the greatest RANK of the NEEDED steps that have an OUTPUT of it as INPUT": of any OUTPUT. */
    private static void rankOfTheLongestWay() {
        BuildDesk x = new BuildDesk();
        Check.tell(x, 0, 1, 1, 10);
        Check.yes("outputs", x.output(0, 11) && x.output(0, 12));
        Check.tell(x, 1, 1, 10, 13, 10);
        Check.tell(x, 2, 1, 30, 14, 12);
        Check.tell(x, 3, 1, 20, 15, 11);
        Check.tell(x, 4, 1, 1, 16, 13, 14, 15);
        built("by the third OUTPUT", x, 16, 8, 32);
        Check.due("9: greatest RANK, by the third OUTPUT", x.count(3), 32);
        rows("by the third OUTPUT", x, "0 0 1 0 1", "2 1 31 0 1", "3 1 21 1 1", "1 1 11 2 1", "4 31 32 0 1");
    }

    /** "RANK: the DURATION of a step and [..]": of a step that none takes of, the DURATION alone. */
    private static void rankIsDurationAtLeast() {
        for (int duration : new int[] {1, 100}) {
            BuildDesk x = new BuildDesk();
            Check.tell(x, 0, 1, duration, 10);
            built("DURATION " + duration, x, 10, 1, duration);
            counts("DURATION " + duration, x, 1, 1, duration, duration);
        }
    }

    /** RANK goes by NEEDED steps, whether or not they are DUE. */
    private static void rankOfNotDueCounts() {
        BuildDesk x = new BuildDesk();
        Check.yes("step", x.step(0, 1, 0, 1) && x.output(0, 10) && x.input(0, 1) && x.source(1, 1));
        Check.tell(x, 1, 1, 100, 11, 10);
        Check.yes("step", x.step(2, 1, 0, 1) && x.output(2, 12) && x.input(2, 1));
        Check.tell(x, 3, 1, 99, 13, 12);
        Check.tell(x, 4, 1, 1, 14, 13, 11);
        built("all", x, 14, 2, 102);
        Check.yes("changes", x.source(1, 2) && x.step(1, 1, -1, 98));
        built("RANKS 100 and 101", x, 14, 1, 2);
        counts("RANKS 100 and 101", x, 5, 2, 2, 101);
        rows("RANKS 100 and 101", x, "2 0 1 0 4", "0 1 2 0 4");
    }

    /** 8: "(what was told of the last one goes)". */
    private static void whatWasToldGoes() {
        BuildDesk x = wide(9, 10);
        built("many", x, 39, 8, 22);
        Check.yes("spoil", x.spoil(39));
        built("one", x, 39, 8, 1);
        rows("one", x, "39 0 1 0 3");
        counts("one", x, 12, 1, 1, 12);
        Check.refuses("10: the second went", NoSuchElementException.class, () -> x.begun(1, 0));
        built("none", x, 39, 8, 0);
        Check.refuses("10: the first went", NoSuchElementException.class, () -> x.begun(0, 0));
    }

    /** 8: "A file is BUILT": the first and the last file, SOURCES with CONTENT. */
    private static void sourceIsBuilt() {
        for (int file : new int[] {0, 63}) {
            BuildDesk x = new BuildDesk();
            Check.yes("source", x.source(file, 0));
            built("SOURCE " + file, x, file, 1, 0);
            built("SOURCE " + file, x, file, 8, 0);
            Check.answers("8: it stays as it is", 0, () -> x.content(file));
        }
    }

    /** 8: "the time at the end": the least there is of a DUE step. */
    private static void timeAtTheEnd() {
        BuildDesk x = new BuildDesk();
        Check.tell(x, 0, 1, 1, 63);
        built("1", x, 63, 1, 1);
        built("0", x, 63, 1, 0);
        Check.yes("step", x.step(0, 2, -1, 100));
        built("100", x, 63, 8, 100);
    }

    /** 8: "IllegalArgumentException: there is no such file". */
    private static void noSuchFile() {
        for (int file : Edge.NO_FILE) {
            Edge.leavesNoTrace("8: file " + file, x -> Check.refuses(
                    "8: file " + file, IllegalArgumentException.class, () -> x.build(file, 1)));
        }
    }

    /** 8: "or workers is not 1 .. 8". */
    private static void noSuchWorkers() {
        for (int workers : Edge.NO_WORKERS) {
            Edge.leavesNoTrace("8: workers " + workers, x -> Check.refuses(
                    "8: workers " + workers, IllegalArgumentException.class, () -> x.build(13, workers)));
        }
    }

    /** 8: no such file and no such workers at once. */
    private static void bothWrong() {
        Edge.leavesNoTrace("8: both", x -> Check.refuses(
                "8: both", IllegalArgumentException.class, () -> x.build(64, 0)));
        Edge.leavesNoTrace("8: both", x -> Check.refuses(
                "8: both", IllegalArgumentException.class, () -> x.build(-1, 9)));
    }

    /** 8: wrong workers tell no round, and are told before a SOURCE that lacks. */
    private static void wrongArgumentsBeforeState() {
        for (int workers : new int[] {0, 9}) {
            for (int file : new int[] {17, 18, 3}) {
                String what = "8: file " + file + ", workers " + workers;
                Edge.leavesNoTrace(what, x -> Check.refuses(
                        what, IllegalArgumentException.class, () -> x.build(file, workers)));
            }
        }
    }

    /** 8: "NEEDED steps wait for one another in a round (then its cycle() is told, nothing else)". */
    private static void roundTellsCycleAlone() {
        Edge.leavesRound("8: a round of one", x -> Check.refuses(
                "8: a round of one", IllegalStateException.class, () -> x.build(17, 8)), "7");
        Edge.leavesRound("8: a round of two", x -> Check.refuses(
                "8: a round of two", IllegalStateException.class, () -> x.build(15, 8)), "5 6");
    }

    /** 8: "if there is none": a round comes before a SOURCE that lacks. */
    private static void roundBeforeLackingSource() {
        BuildDesk x = new BuildDesk();
        Check.tell(x, 0, 1, 1, 10, 1, 13);
        Check.tell(x, 3, 1, 1, 13, 2, 13);
        Check.refuses("8: both", IllegalStateException.class, () -> x.build(10, 1));
        Check.due("11: the round is told", Check.roundOf(x), "3");
    }

    /** 8: "NEEDED steps": others may wait for one another. */
    private static void roundThatIsNotNeeded() {
        BuildDesk x = Edge.used();
        built("beside rounds", x, 13, 1, 8);
        Check.due("11: told before", Check.roundOf(x), "5 6");
        BuildDesk y = new BuildDesk();
        Check.tell(y, 0, 1, 1, 10);
        Check.tell(y, 1, 1, 1, 11, 10, 11);
        built("a round takes of it", y, 10, 1, 1);
        Check.refuses("11: no round", NoSuchElementException.class, () -> y.cycle(0));
    }

    /** 8: "a SOURCE that is INPUT of a NEEDED step [..] has no CONTENT (that changes nothing at all)". */
    private static void inputLacks() {
        Edge.leavesNoTrace("8: INPUT 3 lacks", x -> Check.refuses(
                "8: INPUT 3 lacks", IllegalStateException.class, () -> x.build(18, 8)));
    }

    /** 8: the same, in each place of the least and of the greatest step. */
    private static void eachInputMayLack() {
        for (int s : new int[] {0, 39}) {
            BuildDesk x = new BuildDesk();
            Check.tell(x, s, 1, 1, 10, 0, 1, 2, 3, 4, 63);
            Check.tell(x, 20, 1, 1, 20, 10);
            for (int file : new int[] {0, 1, 2, 3, 4, 63}) {
                Check.yes("source", x.source(file, 0));
            }
            for (int file : new int[] {0, 1, 2, 3, 4, 63}) {
                Check.yes("spoil", x.spoil(file));
                Check.refuses("8: lacks " + file, IllegalStateException.class, () -> x.build(20, 1));
                Check.yes("source", x.source(file, 0));
            }
            built("none lacks, 0 is a CONTENT", x, 20, 1, 2);
        }
    }

    /** 8: a NEEDED step that would else not be DUE. */
    private static void inputLacksOfStepNotDue() {
        BuildDesk x = Edge.used();
        built("to begin with", x, 13, 1, 8);
        Check.yes("spoil", x.spoil(2));
        Check.refuses("8: lacks though it was MADE", IllegalStateException.class, () -> x.build(13, 1));
        rows("told as before", x, "0 0 5 0 4", "1 5 8 0 4");
        Check.yes("source", x.source(2, 12));
        built("nothing changed", x, 13, 1, 0);
    }

    /** 8: a SOURCE that only others take may lack. */
    private static void inputLacksOfStepNotNeeded() {
        BuildDesk x = Edge.used();
        built("18 lacks, 13 does not", x, 13, 1, 8);
        Check.refuses("8: 18 lacks", IllegalStateException.class, () -> x.build(18, 1));
    }

    /** 8: "a SOURCE": an INPUT that is an OUTPUT may lack, and so may the file, being one. */
    private static void outputThatLacksIsMade() {
        BuildDesk x = new BuildDesk();
        Check.tell(x, 0, 1, 3, 10);
        Check.tell(x, 1, 1, 4, 11, 10);
        built("no file has CONTENT", x, 11, 1, 7);
        Check.yes("spoil", x.spoil(10) && x.spoil(11));
        built("no file has any more", x, 11, 1, 7);
        rows("no file has any more", x, "0 0 3 0 3", "1 3 7 0 3");
    }

    /** 8: "or the file itself, being a SOURCE, has no CONTENT". */
    private static void fileItselfLacks() {
        for (int file : new int[] {0, 3, 30, 63}) {
            Edge.leavesNoTrace("8: SOURCE " + file, x -> Check.refuses(
                    "8: SOURCE " + file, IllegalStateException.class, () -> x.build(file, 1)));
        }
    }

    /** 8: "(that changes nothing at all)": no step before the one that lacks is made. */
    private static void lackingSourceMakesNothing() {
        BuildDesk x = new BuildDesk();
        Check.tell(x, 0, 1, 1, 10);
        Check.tell(x, 1, 1, 1, 11, 10, 5);
        String before = Check.allOf(x);
        Check.refuses("8: lacks", IllegalStateException.class, () -> x.build(11, 8));
        Check.due("8: nothing is made", Check.allOf(x), before);
    }

    /** "An object is used for at most 512 calls": the last of them is answered as the first. */
    private static void lastCallOf512() {
        BuildDesk x = new BuildDesk();
        Check.tell(x, 0, 0, 1, 10, 1);
        int calls = 3;
        while (calls < 511) {
            Check.yes("512: source", x.source(1, calls));
            Check.answers("512: build", 1, () -> x.build(10, 1));
            calls += 2;
        }
        Check.answers("512: the last call", 509 * 16777619, () -> x.content(10));
    }
}
