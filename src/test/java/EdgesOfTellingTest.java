import java.util.NoSuchElementException;

/** Each sentence of promises 1 to 7 that names an edge, or has one, by a test of its own. */
public final class EdgesOfTellingTest {
    public static void main(String[] args) {
        newHasNoSteps();
        newHasNoContent();
        newHasBuiltNothing();
        newIsApartFromOthers();
        stepIsToldWithoutFiles();
        stepIsToldAnewWithoutFiles();
        stepThatIsThereKeepsItsFiles();
        noSuchStep();
        noSuchDuration();
        inputOfNoSuchStep();
        inputOfStepNotThere();
        inputNoSuchFile();
        inputWhenItHasSix();
        inputSixAnewBehindDrop();
        outputContentStays();
        outputOfNoSuchStep();
        outputOfStepNotThere();
        outputNoSuchFile();
        outputThatIsAnOutput();
        outputWhenItHasThree();
        outputThreeAnewBehindDrop();
        dropLeavesContents();
        dropLeavesNone();
        dropOfEmptyStep();
        dropMakesSourcesForOthers();
        dropWhenNotThere();
        sourceAgain();
        sourceOfOutput();
        sourceNoSuchFile();
        spoilWithAndWithout();
        spoilOfOutput();
        spoilNoSuchFile();
        Check.end();
    }

    private static void isSource(String what, BuildDesk x, int file) {
        Check.yes(what + ": " + file + " is a SOURCE", x.source(file, 1));
    }

    /** 1: "No steps". */
    private static void newHasNoSteps() {
        BuildDesk x = new BuildDesk();
        Check.due("1: steps", x.count(5), 0);
        for (int s = 0; s < 40; s++) {
            Check.due("1: reason " + s, x.reason(s), BuildDesk.NONE);
            Check.no("1: input", x.input(s, 0));
            Check.no("1: output", x.output(s, 0));
            Check.no("1: drop " + s, x.drop(s));
        }
        for (int file = 0; file < 64; file++) {
            isSource("1", x, file);
        }
    }

    /** 1: "no file has CONTENT". */
    private static void newHasNoContent() {
        BuildDesk x = new BuildDesk();
        Check.due("1: files with CONTENT", x.count(4), 0);
        for (int file = 0; file < 64; file++) {
            final int f = file;
            Check.refuses("1: content " + f, NoSuchElementException.class, () -> x.content(f));
            Check.no("1: spoil " + f, x.spoil(f));
            Check.refuses("1: build " + f, IllegalStateException.class, () -> x.build(f, 8));
        }
    }

    /** 1: "nothing was built". */
    private static void newHasBuiltNothing() {
        BuildDesk x = new BuildDesk();
        for (int what = 0; what <= 4; what++) {
            final int w = what;
            Check.due("1: count " + w, x.count(w), 0);
            Check.refuses("1: begun 0 " + w, NoSuchElementException.class, () -> x.begun(0, w));
        }
        Check.refuses("1: cycle", NoSuchElementException.class, () -> x.cycle(0));
    }

    /** 1: a new object has nothing of another one. */
    private static void newIsApartFromOthers() {
        String fresh = Check.allOf(new BuildDesk());
        Edge.used();
        Check.due("1: beside a used one", Check.allOf(new BuildDesk()), fresh);
    }

    /** 2: "A step is told (without INPUTS, OUTPUTS)". */
    private static void stepIsToldWithoutFiles() {
        BuildDesk x = new BuildDesk();
        Check.yes("2: least", x.step(0, Edge.LEAST, Edge.LEAST, 1));
        Check.yes("2: greatest", x.step(39, Edge.GREATEST, Edge.GREATEST, 100));
        Check.due("2: there", x.count(5), 2);
        for (int file = 0; file < 64; file++) {
            isSource("2", x, file);
        }
        Check.yes("2: output", x.output(39, 5));
        Check.answers("2: without INPUTS", 100, () -> x.build(5, 1));
        Check.answers("2: h is the RECIPE", Edge.GREATEST, () -> x.content(5));
    }

    /** 2: the same behind drop(): what was told before is gone. */
    private static void stepIsToldAnewWithoutFiles() {
        BuildDesk x = new BuildDesk();
        Check.tell(x, 4, 5, 1, 10, 1, 2);
        Check.yes("2: drop", x.drop(4) && x.step(4, 6, -1, 2));
        isSource("2: anew", x, 10);
        Check.yes("2: output", x.output(4, 11));
        Check.answers("2: anew without INPUTS", 2, () -> x.build(11, 1));
        Check.answers("2: anew, h", 6, () -> x.content(11));
        Check.answers("2: anew, not OUTPUT 1", 1, () -> x.content(10));
    }

    /** 2: "or, if it is there, its RECIPE, MASK and DURATION are": INPUTS and OUTPUTS stay. */
    private static void stepThatIsThereKeepsItsFiles() {
        BuildDesk x = new BuildDesk();
        Check.tell(x, 4, 5, 1, 10, 1);
        Check.yes("2: source", x.source(1, 1));
        Check.yes("2: told again", x.step(4, 0, 0xff, 100));
        Check.due("2: still one step", x.count(5), 1);
        Check.no("2: the OUTPUT stays", x.source(10, 1));
        Check.answers("2: the DURATION is new", 100, () -> x.build(10, 1));
        Check.answers("2: RECIPE and MASK are, the INPUT stays", 16777619 & 0xff, () -> x.content(10));
    }

    /** 2: "false, changing nothing, for another step". */
    private static void noSuchStep() {
        for (int s : Edge.NO_STEP) {
            Edge.leavesNoTrace("2: step " + s, x -> Check.no("2: step " + s, x.step(s, 1, 2, 3)));
        }
    }

    /** 2: "or DURATION": for a step that is there and for one that isn't. */
    private static void noSuchDuration() {
        for (int duration : Edge.NO_DURATION) {
            for (int s : new int[] {0, 20}) {
                String what = "2: step " + s + ", DURATION " + duration;
                Edge.leavesNoTrace(what, x -> Check.no(what, x.step(s, 1, 2, duration)));
            }
        }
    }

    /** 3: "false, changing nothing, if it isn't there": no such number. */
    private static void inputOfNoSuchStep() {
        for (int s : Edge.NO_STEP) {
            Edge.leavesNoTrace("3: step " + s, x -> Check.no("3: step " + s, x.input(s, 2)));
        }
    }

    /** 3: "if it isn't there": never told, or dropped. */
    private static void inputOfStepNotThere() {
        for (int s : new int[] {2, 20, 39}) {
            Edge.leavesNoTrace("3: step " + s, x -> Check.no("3: step " + s, x.input(s, 2)));
        }
        BuildDesk x = new BuildDesk();
        Check.yes("3: dropped", x.step(0, 5, -1, 1) && x.drop(0));
        Check.no("3: a dropped one", x.input(0, 1));
        Check.tell(x, 0, 5, 1, 10);
        Check.answers("3: nothing came of it", 1, () -> x.build(10, 1));
    }

    /** 3: "or no such file": for a step with room; 0 and 63 are such. */
    private static void inputNoSuchFile() {
        for (int file : Edge.NO_FILE) {
            Edge.leavesNoTrace("3: file " + file, x -> Check.no("3: file " + file, x.input(1, file)));
        }
        BuildDesk x = new BuildDesk();
        Check.yes("3: step", x.step(0, 5, -1, 1));
        Check.yes("3: file 0", x.input(0, 0));
        Check.yes("3: file 63", x.input(0, 63));
    }

    /** 3: "or it has 6": whichever file it is, one that it has too. */
    private static void inputWhenItHasSix() {
        for (int file : new int[] {0, 1, 2, 10, 13, 63, 64, -1}) {
            String what = "3: a 7th, file " + file;
            Edge.leavesNoTrace(what, x -> Check.no(what, x.input(0, file)));
        }
    }

    /** 3: "or it has 6": a step that is told anew behind drop() has none of them. */
    private static void inputSixAnewBehindDrop() {
        BuildDesk x = Edge.used();
        Check.yes("3: anew", x.drop(0) && x.step(0, 5, -1, 1) && x.output(0, 10));
        for (int i = 0; i < 6; i++) {
            Check.yes("3: anew, INPUT " + i, x.input(0, 2));
        }
        Check.no("3: anew, a 7th", x.input(0, 2));
    }

    /** 4: "(its CONTENT stays)", or it goes on having none. */
    private static void outputContentStays() {
        BuildDesk x = new BuildDesk();
        Check.yes("4: step", x.step(0, 5, -1, 1) && x.source(0, -1) && x.source(63, 0));
        Check.yes("4: outputs", x.output(0, 0) && x.output(0, 63) && x.output(0, 1));
        Check.answers("4: -1 stays", -1, () -> x.content(0));
        Check.answers("4: 0 stays", 0, () -> x.content(63));
        Check.refuses("4: none stays", NoSuchElementException.class, () -> x.content(1));
        Check.due("4: files with CONTENT", x.count(4), 2);
    }

    /** 4: "false, changing nothing, if it isn't there": no such number. */
    private static void outputOfNoSuchStep() {
        for (int s : Edge.NO_STEP) {
            Edge.leavesNoTrace("4: step " + s, x -> Check.no("4: step " + s, x.output(s, 60)));
        }
    }

    /** 4: "if it isn't there": never told, or dropped. */
    private static void outputOfStepNotThere() {
        for (int s : new int[] {2, 20, 39}) {
            Edge.leavesNoTrace("4: step " + s, x -> Check.no("4: step " + s, x.output(s, 60)));
        }
        BuildDesk x = new BuildDesk();
        Check.yes("4: dropped", x.step(0, 5, -1, 1) && x.drop(0));
        Check.no("4: a dropped one", x.output(0, 1));
        Check.yes("4: anew", x.step(0, 5, -1, 1));
        isSource("4: of a dropped one", x, 1);
    }

    /** 4: "or no such file": for a step with room; 0 and 63 are such. */
    private static void outputNoSuchFile() {
        for (int file : Edge.NO_FILE) {
            Edge.leavesNoTrace("4: file " + file, x -> Check.no("4: file " + file, x.output(1, file)));
        }
        BuildDesk x = new BuildDesk();
        Check.yes("4: step", x.step(0, 5, -1, 1));
        Check.yes("4: file 0", x.output(0, 0));
        Check.yes("4: file 63", x.output(0, 63));
    }

    /** 4: "or that is an OUTPUT": of another step, or its own, the first and the last. */
    private static void outputThatIsAnOutput() {
        for (int file : new int[] {10, 11, 12, 13, 15}) {
            for (int s : new int[] {1, 9}) {
                String what = "4: step " + s + ", file " + file;
                Edge.leavesNoTrace(what, x -> Check.no(what, x.output(s, file)));
            }
        }
    }

    /** 4: "or it has 3". */
    private static void outputWhenItHasThree() {
        for (int file : new int[] {0, 1, 60, 63, 64, -1}) {
            String what = "4: a 4th, file " + file;
            Edge.leavesNoTrace(what, x -> Check.no(what, x.output(0, file)));
        }
    }

    /** 4: "or it has 3": a step that is told anew behind drop() has none of them. */
    private static void outputThreeAnewBehindDrop() {
        BuildDesk x = Edge.used();
        Check.yes("4: anew", x.drop(0) && x.step(0, 5, -1, 1));
        Check.yes("4: anew, three", x.output(0, 12) && x.output(0, 60) && x.output(0, 61));
        Check.no("4: anew, a 4th", x.output(0, 62));
    }

    /** 5: "(its OUTPUTS are SOURCES with the CONTENTS that they have)". */
    private static void dropLeavesContents() {
        BuildDesk x = Edge.used();
        String told = Check.outcome(() -> x.content(12));
        Check.yes("5: drop", x.drop(0));
        Check.due("5: CONTENT of 12", Check.outcome(() -> x.content(12)), told);
        for (int file = 10; file <= 12; file++) {
            isSource("5", x, file);
        }
        Check.due("5: not there", x.reason(0), BuildDesk.NONE);
        Check.due("5: one less", x.count(5), 6);
    }

    /** 5: the same, where they have none. */
    private static void dropLeavesNone() {
        BuildDesk x = new BuildDesk();
        Check.tell(x, 0, 5, 1, 10);
        Check.yes("5: drop", x.drop(0));
        Check.refuses("5: none", NoSuchElementException.class, () -> x.content(10));
        Check.refuses("5: a SOURCE that lacks", IllegalStateException.class, () -> x.build(10, 1));
        isSource("5", x, 10);
        Check.answers("5: a SOURCE that has", 0, () -> x.build(10, 1));
    }

    /** 5: a step without INPUTS and OUTPUTS. */
    private static void dropOfEmptyStep() {
        for (int s : new int[] {0, 39}) {
            BuildDesk x = new BuildDesk();
            Check.yes("5: step", x.step(s, 5, -1, 1));
            Check.yes("5: an empty one", x.drop(s));
            Check.due("5: no steps", x.count(5), 0);
        }
    }

    /** 5: a step that takes what a dropped one made goes on taking it. */
    private static void dropMakesSourcesForOthers() {
        BuildDesk x = Edge.used();
        Check.answers("5: build", 8, () -> x.build(13, 1));
        Check.yes("5: drop", x.drop(0));
        Check.due("5: not DUE by it", x.reason(1), 0);
        Check.answers("5: not NEEDED any more", 0, () -> x.build(13, 1));
        Check.due("5: one is", x.count(0), 1);
        Check.yes("5: spoil", x.spoil(10));
        Check.refuses("5: its OUTPUT may lack now", IllegalStateException.class, () -> x.build(13, 1));
        Check.yes("5: source", x.source(10, 9));
        Check.answers("5: or be told", 3, () -> x.build(13, 1));
    }

    /** 5: "false if it isn't there": no such number, never told, dropped before. */
    private static void dropWhenNotThere() {
        for (int s : Edge.NO_STEP) {
            Edge.leavesNoTrace("5: step " + s, x -> Check.no("5: step " + s, x.drop(s)));
        }
        for (int s : new int[] {2, 20, 39}) {
            Edge.leavesNoTrace("5: step " + s, x -> Check.no("5: step " + s, x.drop(s)));
        }
        BuildDesk x = Edge.used();
        Check.yes("5: drop", x.drop(0));
        Check.yes("5: another takes its OUTPUTS", x.output(1, 10) && x.output(1, 11));
        Check.no("5: a second time", x.drop(0));
        Check.no("5: they stay the other's", x.source(10, 1) || x.source(11, 1));
    }

    /** 6: "A SOURCE has a CONTENT": another one, or the same one again. */
    private static void sourceAgain() {
        BuildDesk x = new BuildDesk();
        for (int content : new int[] {Edge.LEAST, Edge.GREATEST, 0, 0, -1}) {
            Check.yes("6: source", x.source(63, content));
            Check.answers("6: " + content, content, () -> x.content(63));
            Check.due("6: one file", x.count(4), 1);
        }
        Check.yes("6: source", x.source(0, 7));
        Check.answers("6: the other stays", -1, () -> x.content(63));
    }

    /** 6: "false, changing nothing, if it is none": an OUTPUT, with CONTENT or without. */
    private static void sourceOfOutput() {
        for (int file : new int[] {10, 11, 12, 13, 15, 18}) {
            Edge.leavesNoTrace("6: OUTPUT " + file, x -> Check.no("6: OUTPUT " + file, x.source(file, 1)));
        }
    }

    /** 6: the same, where there is no such file. */
    private static void sourceNoSuchFile() {
        for (int file : Edge.NO_FILE) {
            Edge.leavesNoTrace("6: file " + file, x -> Check.no("6: file " + file, x.source(file, 1)));
        }
    }

    /** 7: "whether it had one". */
    private static void spoilWithAndWithout() {
        BuildDesk x = new BuildDesk();
        for (int file : new int[] {0, 63}) {
            Check.no("7: never had one", x.spoil(file));
            Check.yes("7: source", x.source(file, 0));
            Check.yes("7: had 0", x.spoil(file));
            Check.no("7: has none any more", x.spoil(file));
            Check.yes("7: source", x.source(file, 4));
            Check.answers("7: has one again", 4, () -> x.content(file));
        }
        Edge.leavesNoTrace("7: one without", y -> Check.no("7: without", y.spoil(3)));
        Edge.leavesNoTrace("7: an OUTPUT without", y -> Check.no("7: without", y.spoil(15)));
    }

    /** 7: "A file": an OUTPUT is one too, and stays an OUTPUT. */
    private static void spoilOfOutput() {
        BuildDesk x = Edge.used();
        Check.yes("7: an OUTPUT", x.spoil(13));
        Check.refuses("7: none", NoSuchElementException.class, () -> x.content(13));
        Check.due("7: it makes DUE", x.reason(1), 3);
        Check.no("7: no SOURCE", x.source(13, 1));
        Check.answers("7: it is made again", 8, () -> x.build(13, 1));
    }

    /** 7: there is no such file: it had none. */
    private static void spoilNoSuchFile() {
        for (int file : Edge.NO_FILE) {
            Edge.leavesNoTrace("7: file " + file, x -> Check.no("7: file " + file, x.spoil(file)));
        }
    }
}
