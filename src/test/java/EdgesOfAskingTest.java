import java.util.NoSuchElementException;

/** Each sentence of promises 9 to 13 that names an edge, or has one, by a test of its own. */
public final class EdgesOfAskingTest {
    public static void main(String[] args) {
        countBeforeAnyBuild();
        countOfTheLastBuilt();
        countBehindRefusals();
        countOfNothingBegun();
        countAtTheGreatest();
        countOfFilesFromNoneToAll();
        countOfStepsFromNoneToAll();
        countOfAnotherWhat();
        begunBeforeAnyBuild();
        begunFirstAndLast();
        begunBeyond();
        begunOfAnotherWhat();
        begunAtOneTime();
        begunOfEachReason();
        begunBehindRefusals();
        begunBehindChanges();
        cycleBeforeAnyRound();
        cycleOfOne();
        cycleOfForty();
        cycleBeyond();
        cycleOfTheLeastThatWaitsForItself();
        cycleOfNeededStepsAlone();
        cycleIsShortest();
        cycleOfSeveralTheLess();
        cycleDiffersLate();
        cycleOfTheLastRefused();
        cycleBehindOtherBuilds();
        contentOfNoSuchFile();
        contentOfNone();
        contentOfAnyInt();
        reasonOfNoSuchStep();
        reasonOfStepNotThere();
        reasonIsZero();
        reasonWhateverOthersDo();
        reasonOfStepInRound();
        Check.end();
    }

    private static void built(String what, BuildDesk x, int file, int time) {
        Check.answers(what, time, () -> x.build(file, 1));
    }

    private static void counts(String what, BuildDesk x, int needed, int begun, int busy, int rank) {
        Check.due(what + ": needed", x.count(0), needed);
        Check.due(what + ": begun", x.count(1), begun);
        Check.due(what + ": busy", x.count(2), busy);
        Check.due(what + ": greatest RANK", x.count(3), rank);
    }

    private static void none(String what, Check.Call call) {
        Check.refuses(what, NoSuchElementException.class, call);
    }

    private static void refused(String what, BuildDesk x, int file, String round) {
        Check.refuses(what, IllegalStateException.class, () -> x.build(file, 1));
        Check.due(what, Check.roundOf(x), round);
    }

    /** Steps 0 to 39 make the files 0 to 39; which of them a step takes is told afterwards. */
    private static BuildDesk forty(int duration) {
        BuildDesk x = new BuildDesk();
        for (int s = 0; s < 40; s++) {
            Check.tell(x, s, s, duration, s);
        }
        return x;
    }

    private static void takes(BuildDesk x, int s, int... files) {
        for (int file : files) {
            Check.yes("input", x.input(s, file));
        }
    }

    /** 9: "Of the last file that was BUILT": there is none yet. */
    private static void countBeforeAnyBuild() {
        BuildDesk x = new BuildDesk();
        counts("9: new", x, 0, 0, 0, 0);
        Check.tell(x, 0, 1, 5, 10, 1);
        counts("9: told", x, 0, 0, 0, 0);
        Check.refuses("9: lacks", IllegalStateException.class, () -> x.build(10, 1));
        Check.refuses("9: file", IllegalArgumentException.class, () -> x.build(64, 1));
        counts("9: refused", x, 0, 0, 0, 0);
    }

    /** 9: "the last file": what was told of the one before is gone. */
    private static void countOfTheLastBuilt() {
        BuildDesk x = Edge.used();
        counts("9: built once", x, 2, 2, 8, 8);
        built("9: build", x, 12, 5);
        counts("9: built twice", x, 1, 1, 5, 5);
        built("9: build", x, 13, 3);
        counts("9: built three times", x, 2, 1, 3, 8);
        built("9: build", x, 1, 0);
        counts("9: a SOURCE", x, 0, 0, 0, 0);
    }

    /** 9: "that was BUILT": a refused build() is none, whatever it is refused for. */
    private static void countBehindRefusals() {
        BuildDesk x = Edge.used();
        Check.refuses("9: round", IllegalStateException.class, () -> x.build(17, 1));
        counts("9: behind a round", x, 2, 2, 8, 8);
        Check.refuses("9: lacks", IllegalStateException.class, () -> x.build(18, 1));
        counts("9: behind an INPUT that lacks", x, 2, 2, 8, 8);
        Check.refuses("9: lacks", IllegalStateException.class, () -> x.build(30, 1));
        counts("9: behind a SOURCE that lacks", x, 2, 2, 8, 8);
        Check.refuses("9: file", IllegalArgumentException.class, () -> x.build(-1, 1));
        Check.refuses("9: workers", IllegalArgumentException.class, () -> x.build(13, 0));
        counts("9: behind wrong arguments", x, 2, 2, 8, 8);
    }

    /** 9: NEEDED and RANK are told though nothing was begun. */
    private static void countOfNothingBegun() {
        BuildDesk x = Edge.used();
        built("9: build", x, 13, 8);
        built("9: nothing is DUE", x, 13, 0);
        counts("9: nothing begun", x, 2, 0, 0, 8);
    }

    /** 9: how far the four may go: forty steps of 100, one behind the other. */
    private static void countAtTheGreatest() {
        BuildDesk x = forty(100);
        for (int s = 1; s < 40; s++) {
            takes(x, s, s - 1);
        }
        built("9: build", x, 39, 4000);
        counts("9: the greatest", x, 40, 40, 4000, 4000);
    }

    /** 9: "files with CONTENT now (4)". */
    private static void countOfFilesFromNoneToAll() {
        BuildDesk x = new BuildDesk();
        for (int file = 0; file < 64; file++) {
            Check.due("9: files", x.count(4), file);
            Check.yes("9: source", x.source(file, 0));
        }
        Check.due("9: all files", x.count(4), 64);
        Check.yes("9: source again", x.source(63, 1));
        Check.due("9: no more than all", x.count(4), 64);
        for (int file = 63; file >= 0; file--) {
            Check.yes("9: spoil", x.spoil(file));
            Check.due("9: files", x.count(4), file);
        }
        Check.no("9: spoil again", x.spoil(0));
        Check.due("9: no less than none", x.count(4), 0);
    }

    /** 9: "steps that are there now (5)". */
    private static void countOfStepsFromNoneToAll() {
        BuildDesk x = new BuildDesk();
        for (int s = 0; s < 40; s++) {
            Check.due("9: steps", x.count(5), s);
            Check.yes("9: step", x.step(s, 0, 0, 1));
        }
        Check.due("9: all steps", x.count(5), 40);
        Check.yes("9: step again", x.step(39, 1, 1, 1));
        Check.due("9: no more than all", x.count(5), 40);
        for (int s = 39; s >= 0; s--) {
            Check.yes("9: drop", x.drop(s));
            Check.due("9: steps", x.count(5), s);
        }
        Check.no("9: drop again", x.drop(0));
        Check.due("9: no less than none", x.count(5), 0);
    }

    /** 9: "NONE for another what". */
    private static void countOfAnotherWhat() {
        int[] others = {-1, 6, 7, 8, -6, 256, 1 << 16, Edge.LEAST, Edge.GREATEST};
        for (int what : others) {
            Check.due("9: what " + what, new BuildDesk().count(what), BuildDesk.NONE);
            Edge.leavesNoTrace("9: what " + what,
                    x -> Check.due("9: what " + what, x.count(what), BuildDesk.NONE));
        }
    }

    /** 10: "NoSuchElementException: there is none". */
    private static void begunBeforeAnyBuild() {
        BuildDesk x = new BuildDesk();
        for (int what = -1; what <= 5; what++) {
            final int w = what;
            none("10: new, what " + w, () -> x.begun(0, w));
        }
        Check.tell(x, 0, 1, 5, 10);
        none("10: told", () -> x.begun(0, 0));
        built("10: build", x, 10, 5);
        Check.due("10: built", Check.row(x, 0), "0 0 5 0 1");
        built("10: not DUE", x, 10, 0);
        none("10: nothing began", () -> x.begun(0, 0));
    }

    /** 10: "the k-th step that began (from 0 on)": up to all forty. */
    private static void begunFirstAndLast() {
        BuildDesk x = forty(1);
        for (int s = 0; s < 39; s++) {
            takes(x, s, s + 1);
        }
        built("10: build", x, 0, 40);
        for (int k = 0; k < 40; k++) {
            Check.due("10: row " + k, Check.row(x, k), (39 - k) + " " + k + " " + (k + 1) + " 0 1");
        }
        none("10: the 41st", () -> x.begun(40, 0));
        none("10: before the first", () -> x.begun(-1, 0));
    }

    /** 10: the same, for each number that is not one of two. */
    private static void begunBeyond() {
        int[] others = {-1, 2, 3, 39, 40, 41, 64, -2, 256, 1 << 16, 1 << 30, 858993460, Edge.LEAST, Edge.GREATEST};
        for (int k : others) {
            Edge.leavesNoTrace("10: k " + k, x -> none("10: k " + k, () -> x.begun(k, 0)));
        }
    }

    /** 10: "or another what". */
    private static void begunOfAnotherWhat() {
        for (int what : new int[] {-1, 5, 6, -5, 256, 1 << 16, Edge.LEAST, Edge.GREATEST}) {
            for (int k : new int[] {0, 1, 2}) {
                String told = "10: k " + k + ", what " + what;
                Edge.leavesNoTrace(told, x -> none(told, () -> x.begun(k, what)));
            }
        }
    }

    /** 10: "at one time in the order in which they began": by RANK, not by number. */
    private static void begunAtOneTime() {
        BuildDesk x = new BuildDesk();
        Check.tell(x, 0, 1, 1, 10);
        Check.tell(x, 1, 1, 3, 11);
        Check.tell(x, 2, 1, 2, 12);
        Check.tell(x, 3, 1, 3, 13);
        Check.tell(x, 4, 1, 1, 14, 10, 11, 12, 13);
        Check.answers("10: build", 4, () -> x.build(14, 8));
        String[] rows = {"1 0 3 0 1", "3 0 3 1 1", "2 0 2 2 1", "0 0 1 3 1", "4 3 4 0 1"};
        for (int k = 0; k < 5; k++) {
            Check.due("10: at one time, " + k, Check.row(x, k), rows[k]);
        }
    }

    /** 10: "the REASON (4)": as it was when the step began, with all four of them in one build. */
    private static void begunOfEachReason() {
        BuildDesk x = new BuildDesk();
        for (int s = 1; s <= 4; s++) {
            Check.tell(x, s, 1, 10 - s, 10 + s, s);
            Check.yes("10: source", x.source(s, 5));
        }
        Check.tell(x, 9, 1, 1, 20, 12, 13, 14);
        built("10: build", x, 20, 22);
        takes(x, 9, 11);
        Check.yes("10: changes", x.step(2, 2, -1, 8) && x.spoil(13) && x.source(4, 6));
        built("10: build", x, 20, 31);
        for (int k = 0; k < 4; k++) {
            Check.due("10: step " + (k + 1), x.begun(k, 0), k + 1);
            Check.due("10: REASON " + (k + 1), x.begun(k, 4), k + 1);
        }
        Check.due("10: the last, told otherwise and with other INPUTS", x.begun(4, 4), 2);
    }

    /** 10: told of the last file that was BUILT, not of a refused build(). */
    private static void begunBehindRefusals() {
        BuildDesk x = Edge.used();
        for (int file : new int[] {17, 18, 30, 64}) {
            Check.outcome(() -> x.build(file, 1));
            Check.due("10: row 0 behind " + file, Check.row(x, 0), "0 0 5 0 1");
            Check.due("10: row 1 behind " + file, Check.row(x, 1), "1 5 8 0 1");
        }
    }

    /** 10: what happened stays, though the step is told otherwise or is not there any more. */
    private static void begunBehindChanges() {
        BuildDesk x = Edge.used();
        Check.yes("10: changes", x.drop(0) && x.step(1, 1, 1, 100) && x.spoil(13));
        Check.due("10: of a dropped one", Check.row(x, 0), "0 0 5 0 1");
        Check.due("10: of one told otherwise", Check.row(x, 1), "1 5 8 0 1");
    }

    /** 11: "NoSuchElementException: there is none such": no build() was refused for a round. */
    private static void cycleBeforeAnyRound() {
        BuildDesk x = new BuildDesk();
        none("11: new", () -> x.cycle(0));
        Check.tell(x, 0, 1, 1, 10, 10);
        none("11: told, not built", () -> x.cycle(0));
        Check.refuses("11: workers", IllegalArgumentException.class, () -> x.build(10, 9));
        none("11: refused for its workers", () -> x.cycle(0));
        Check.refuses("11: lacks", IllegalStateException.class, () -> x.build(5, 1));
        none("11: refused for a SOURCE", () -> x.cycle(0));
    }

    /** Terms: "(A step that has an OUTPUT of its own as INPUT is a round of one.)": any of three. */
    private static void cycleOfOne() {
        for (int file = 10; file <= 12; file++) {
            for (int s : new int[] {0, 39}) {
                BuildDesk x = new BuildDesk();
                Check.yes("11: step", x.step(s, 1, -1, 1));
                Check.yes("11: outputs", x.output(s, 10) && x.output(s, 11) && x.output(s, 12));
                takes(x, s, file);
                Check.yes("11: its CONTENT is not asked for", x.reason(s) == 1);
                refused("11: step " + s + " takes its OUTPUT " + file, x, 10, String.valueOf(s));
                none("11: a second one", () -> x.cycle(1));
            }
        }
    }

    /** 11: the longest there may be. */
    private static void cycleOfForty() {
        BuildDesk x = forty(1);
        StringBuilder back = new StringBuilder("0");
        for (int s = 0; s < 40; s++) {
            takes(x, s, (s + 39) % 40);
            if (s > 0) {
                back.append(' ').append(40 - s);
            }
        }
        refused("11: forty", x, 17, back.toString());
        Check.answers("11: the last", 1, () -> x.cycle(39));
        none("11: the 41st", () -> x.cycle(40));
        none("11: before the first", () -> x.cycle(-1));
    }

    /** 11: "Step i (from 0 on)": each number that is not one of two. */
    private static void cycleBeyond() {
        int[] others = {-1, 2, 3, 39, 40, 41, 64, -2, 256, 1 << 16, 1 << 30, Edge.LEAST, Edge.GREATEST};
        for (int i : others) {
            Edge.leavesNoTrace("11: i " + i, x -> none("11: i " + i, () -> x.cycle(i)));
        }
    }

    /** 11: "of the least NEEDED step that waits for itself, by whatever steps". */
    private static void cycleOfTheLeastThatWaitsForItself() {
        BuildDesk x = forty(1);
        takes(x, 0, 7);
        takes(x, 7, 6);
        takes(x, 6, 5, 39);
        takes(x, 5, 7);
        takes(x, 39, 39);
        refused("11: 0 waits for a round, not for itself", x, 0, "5 7 6");
        refused("11: less by one's own", x, 39, "39");
    }

    /** 11: "NEEDED": a lesser step that waits for itself counts only if it is. */
    private static void cycleOfNeededStepsAlone() {
        BuildDesk x = forty(1);
        takes(x, 0, 0, 8);
        takes(x, 8, 9);
        takes(x, 9, 8);
        refused("11: 0 is not NEEDED", x, 8, "8 9");
        refused("11: 0 is NEEDED", x, 0, "0");
    }

    /** 11: "a shortest round": though a longer one is less, and another step's is shorter. */
    private static void cycleIsShortest() {
        BuildDesk x = forty(1);
        takes(x, 3, 4, 30);
        takes(x, 4, 5);
        takes(x, 5, 3, 5);
        takes(x, 30, 3);
        refused("11: two rather than three or one", x, 5, "3 30");
    }

    /** 11: "of several the one in which the first step that differs is less". */
    private static void cycleOfSeveralTheLess() {
        BuildDesk x = forty(1);
        takes(x, 3, 39, 20, 10);
        takes(x, 39, 4);
        takes(x, 20, 5);
        takes(x, 10, 38);
        takes(x, 4, 3);
        takes(x, 5, 3);
        takes(x, 38, 3);
        refused("11: 10 before 20 and 39, whatever follows", x, 3, "3 10 38");
    }

    /** 11: the same, where the last step is the first that differs. */
    private static void cycleDiffersLate() {
        BuildDesk x = forty(1);
        takes(x, 3, 4);
        takes(x, 4, 5);
        takes(x, 5, 39, 38, 37, 0);
        takes(x, 39, 3);
        takes(x, 38, 3);
        takes(x, 37, 1);
        takes(x, 1, 2);
        refused("11: 38 before 39; 37 and 0 lead nowhere", x, 39, "3 4 5 38");
    }

    /** 11: "the round of the last build() that was refused for one": a longer, a shorter. */
    private static void cycleOfTheLastRefused() {
        BuildDesk x = forty(1);
        takes(x, 1, 2);
        takes(x, 2, 3);
        takes(x, 3, 1);
        takes(x, 9, 9);
        refused("11: one", x, 9, "9");
        refused("11: three", x, 3, "1 2 3");
        refused("11: one again", x, 9, "9");
        none("11: nothing is left of three", () -> x.cycle(1));
    }

    /** 11: the same, behind builds that were not refused, or not for a round. */
    private static void cycleBehindOtherBuilds() {
        BuildDesk x = Edge.used();
        built("11: build", x, 13, 8);
        Check.due("11: behind one that is BUILT", Check.roundOf(x), "5 6");
        Check.refuses("11: lacks", IllegalStateException.class, () -> x.build(18, 1));
        Check.refuses("11: file", IllegalArgumentException.class, () -> x.build(64, 1));
        Check.due("11: behind other refusals", Check.roundOf(x), "5 6");
        Check.yes("11: drop", x.drop(5) && x.drop(6));
        Check.due("11: behind drop()", Check.roundOf(x), "5 6");
    }

    /** 12: "NoSuchElementException: no such file". */
    private static void contentOfNoSuchFile() {
        for (int file : Edge.NO_FILE) {
            Edge.leavesNoTrace("12: file " + file, x -> none("12: file " + file, () -> x.content(file)));
        }
    }

    /** 12: "or it has none": never had, had, a SOURCE, an OUTPUT. */
    private static void contentOfNone() {
        for (int file : new int[] {0, 3, 15, 18, 63}) {
            Edge.leavesNoTrace("12: none in " + file, x -> none("12: none in " + file, () -> x.content(file)));
        }
        BuildDesk x = Edge.used();
        Check.yes("12: spoil", x.spoil(1) && x.spoil(13));
        none("12: a SOURCE had one", () -> x.content(1));
        none("12: an OUTPUT had one", () -> x.content(13));
    }

    /** 12: "The CONTENT of a file": also one that looks like NONE. */
    private static void contentOfAnyInt() {
        BuildDesk x = new BuildDesk();
        for (int content : new int[] {BuildDesk.NONE, 0, Edge.LEAST, Edge.GREATEST}) {
            Check.yes("12: source", x.source(0, content) && x.source(63, ~content));
            Check.answers("12: file 0", content, () -> x.content(0));
            Check.answers("12: file 63", ~content, () -> x.content(63));
        }
    }

    /** 13: "NONE if it isn't there": no such number. */
    private static void reasonOfNoSuchStep() {
        for (int s : Edge.NO_STEP) {
            Edge.leavesNoTrace("13: step " + s, x -> Check.due("13: step " + s, x.reason(s), BuildDesk.NONE));
        }
    }

    /** 13: the same: not told yet, refused, dropped. */
    private static void reasonOfStepNotThere() {
        BuildDesk x = Edge.used();
        Check.due("13: not told", x.reason(39), BuildDesk.NONE);
        Check.no("13: refused", x.step(39, 1, 1, 101));
        Check.due("13: refused", x.reason(39), BuildDesk.NONE);
        Check.yes("13: told", x.step(39, 1, 1, 100));
        Check.due("13: told", x.reason(39), 1);
        Check.yes("13: drop", x.drop(39) && x.drop(1));
        Check.due("13: dropped", x.reason(39), BuildDesk.NONE);
        Check.due("13: dropped behind being MADE", x.reason(1), BuildDesk.NONE);
    }

    /** 13: "0 if it is not": behind it was MADE, and whenever all is again as it was then. */
    private static void reasonIsZero() {
        BuildDesk x = Edge.used();
        Check.due("13: a change waits", x.reason(0), 4);
        Check.yes("13: back", x.source(1, 11));
        Check.due("13: as it was", x.reason(0), 0);
        Check.yes("13: there and back", x.step(0, 8, 0, 9) && x.step(0, 7, -1, 5));
        Check.due("13: told as it was", x.reason(0), 0);
        built("13: nothing is DUE", x, 13, 0);
    }

    /** 13: "whatever other steps do": not what would be DUE behind them. */
    private static void reasonWhateverOthersDo() {
        BuildDesk x = Edge.used();
        Check.due("13: the one before is DUE", x.reason(0), 4);
        Check.due("13: the one behind is not now", x.reason(1), 0);
        Check.yes("13: spoil", x.spoil(10));
        Check.due("13: an INPUT that would be made lacks now", x.reason(1), 4);
        Check.yes("13: drop", x.drop(0));
        Check.due("13: nor if none makes it", x.reason(1), 4);
    }

    /** 13: a step that can't be made has a REASON all the same. */
    private static void reasonOfStepInRound() {
        BuildDesk x = Edge.used();
        Check.due("13: in a round of two", x.reason(5), 1);
        Check.due("13: in a round of one", x.reason(7), 1);
        Check.due("13: without its SOURCE", x.reason(8), 1);
        Check.due("13: an empty one", x.reason(9), 1);
        Check.yes("13: input", x.input(1, 13));
        Check.due("13: MADE, then told into a round", x.reason(1), 2);
    }
}
