import java.util.NoSuchElementException;

/** Each sentence of 'Terms' that names an edge, or has one, by a test of its own. */
public final class EdgesOfTermsTest {
    private static final int FACTOR = 16777619;

    public static void main(String[] args) {
        files();
        contentIsAnyInt();
        contentOrNone();
        steps();
        recipeIsAnyInt();
        maskIsAnyInt();
        durationFromOneToHundred();
        noInputsUpToSix();
        noOutputsUpToThree();
        orderOfInputs();
        orderOfOutputs();
        sameInputTwice();
        outputOfOneStepAtMost();
        ofNoneIsSource();
        productWrapsAround();
        sumWrapsAround();
        sumBeforeMask();
        contentsAtTheEnd();
        neverMade();
        madeButNotSinceDrop();
        othersThanWhenMadeLast();
        durationIsNoReason();
        outputWithoutContent();
        inputWithAnotherOrNone();
        firstReasonThatHolds();
        Check.end();
    }

    /** A step of MASK -1 and DURATION 1 with file 10 as its first OUTPUT. */
    private static BuildDesk oneStep(int recipe, int... inputs) {
        BuildDesk x = new BuildDesk();
        Check.tell(x, 0, recipe, 1, 10, inputs);
        return x;
    }

    private static void built(String what, BuildDesk x, int file, int time) {
        Check.answers(what, time, () -> x.build(file, 1));
    }

    private static void has(String what, BuildDesk x, int file, int content) {
        Check.answers(what, content, () -> x.content(file));
    }

    /** "FILES 0 .. 63": all of them at once, each for itself. */
    private static void files() {
        BuildDesk x = new BuildDesk();
        for (int file = 0; file < 64; file++) {
            Check.yes("FILES: source " + file, x.source(file, 1000 + file));
        }
        Check.due("FILES: all have CONTENT", x.count(4), 64);
        for (int file = 0; file < 64; file++) {
            has("FILES: " + file, x, file, 1000 + file);
            Check.yes("FILES: spoil " + file, x.spoil(file));
            Check.due("FILES: left behind " + file, x.count(4), 63 - file);
        }
    }

    /** "have a CONTENT (an int)". */
    private static void contentIsAnyInt() {
        for (int content : new int[] {0, 1, -1, Edge.LEAST, Edge.GREATEST}) {
            BuildDesk x = oneStep(5, 0);
            Check.yes("CONTENT: source", x.source(0, content));
            has("CONTENT: " + content, x, 0, content);
            built("CONTENT: build", x, 10, 1);
            has("CONTENT: taken, " + content, x, 10, (5 ^ content) * FACTOR);
            Check.due("CONTENT: not DUE", x.reason(0), 0);
        }
    }

    /** "or none": which is neither 0 nor NONE. */
    private static void contentOrNone() {
        for (int content : new int[] {0, BuildDesk.NONE}) {
            BuildDesk x = oneStep(5, 0);
            Check.yes("CONTENT or none: source", x.source(0, content));
            built("CONTENT or none: build", x, 10, 1);
            Check.yes("CONTENT or none: it had " + content, x.spoil(0));
            Check.due("CONTENT or none: another than " + content, x.reason(0), 4);
            Check.refuses("CONTENT or none: none", NoSuchElementException.class, () -> x.content(0));
            Check.refuses("CONTENT or none: lacks", IllegalStateException.class, () -> x.build(10, 1));
        }
    }

    /** "STEPS 0 .. 39": all of them at once, each for itself. */
    private static void steps() {
        BuildDesk x = new BuildDesk();
        for (int s = 0; s < 40; s++) {
            Check.tell(x, s, 100 + s, 1, s);
            Check.due("STEPS: there", x.count(5), s + 1);
        }
        for (int s = 0; s < 40; s++) {
            built("STEPS: build of " + s, x, s, 1);
            has("STEPS: made by " + s, x, s, 100 + s);
            Check.due("STEPS: needed alone", x.count(0), 1);
        }
    }

    /** "a RECIPE [..] (ints)". */
    private static void recipeIsAnyInt() {
        for (int recipe : new int[] {0, 1, -1, Edge.LEAST, Edge.GREATEST}) {
            BuildDesk x = oneStep(recipe);
            built("RECIPE: build", x, 10, 1);
            has("RECIPE: h of " + recipe, x, 10, recipe);
        }
    }

    /** "a MASK (ints)": none, one, all bits, the sign alone, all but the sign. */
    private static void maskIsAnyInt() {
        for (int mask : new int[] {0, 1, -1, Edge.LEAST, Edge.GREATEST, 0x55555555}) {
            BuildDesk x = new BuildDesk();
            Check.yes("MASK: step", x.step(0, 0xdeadbeef, mask, 1) && x.output(0, 10) && x.output(0, 11));
            built("MASK: build", x, 10, 1);
            has("MASK: " + mask, x, 10, 0xdeadbeef & mask);
            has("MASK: of OUTPUT 1, " + mask, x, 11, 0xdeadbef0 & mask);
        }
    }

    /** "a DURATION (1 .. 100)": each one, and no other. */
    private static void durationFromOneToHundred() {
        BuildDesk x = new BuildDesk();
        for (int duration = 1; duration <= 100; duration++) {
            Check.yes("DURATION: " + duration, x.step(0, duration, -1, duration));
            if (duration == 1) {
                Check.yes("DURATION: output", x.output(0, 10));
            }
            built("DURATION: takes " + duration, x, 10, duration);
        }
        for (int duration : Edge.NO_DURATION) {
            Check.no("DURATION: " + duration, x.step(0, 0, -1, duration));
        }
    }

    /** "up to 6 INPUTS": without any, and with each number of them. */
    private static void noInputsUpToSix() {
        BuildDesk x = oneStep(5);
        Check.yes("INPUTS: source", x.source(1, 9));
        int h = 5;
        for (int inputs = 0; inputs <= 6; inputs++) {
            built("INPUTS: build of " + inputs, x, 10, 1);
            has("INPUTS: " + inputs, x, 10, h);
            Check.due("INPUTS: room behind " + inputs, x.input(0, 1), inputs < 6);
            h = (h ^ 9) * FACTOR;
        }
        Check.due("INPUTS: the 7th was none", x.reason(0), 0);
    }

    /** "up to 3 OUTPUTS": without any (then it is never NEEDED), and with each number of them. */
    private static void noOutputsUpToThree() {
        BuildDesk x = new BuildDesk();
        Check.yes("OUTPUTS: step", x.step(0, 5, -1, 1) && x.input(0, 1) && x.source(1, 0));
        built("OUTPUTS: what it takes", x, 1, 0);
        Check.due("OUTPUTS: without one it is not NEEDED", x.count(0), 0);
        Check.due("OUTPUTS: nor MADE", x.reason(0), 1);
        for (int outputs = 1; outputs <= 3; outputs++) {
            Check.yes("OUTPUTS: room for " + outputs, x.output(0, 9 + outputs));
            built("OUTPUTS: build of " + outputs, x, 9 + outputs, 1);
            for (int i = 0; i < outputs; i++) {
                has("OUTPUTS: " + i + " of " + outputs, x, 10 + i, 5 * FACTOR + i);
            }
        }
        Check.no("OUTPUTS: no room for a 4th", x.output(0, 13));
        Check.due("OUTPUTS: the 4th was none", x.reason(0), 0);
    }

    /** "(files, in the order in which they were told)": not by their numbers. */
    private static void orderOfInputs() {
        BuildDesk x = oneStep(5, 63, 0, 40, 2);
        int h = 5;
        for (int file : new int[] {63, 0, 40, 2}) {
            Check.yes("order of INPUTS: source", x.source(file, file * 3 + 1));
            h = (h ^ (file * 3 + 1)) * FACTOR;
        }
        built("order of INPUTS: build", x, 10, 1);
        has("order of INPUTS: h", x, 10, h);
    }

    /** "its OUTPUT i (from 0 on)": by the order in which they were told too. */
    private static void orderOfOutputs() {
        BuildDesk x = new BuildDesk();
        Check.yes("order of OUTPUTS: step", x.step(0, 5, -1, 1));
        Check.yes("order of OUTPUTS: told", x.output(0, 63) && x.output(0, 0) && x.output(0, 40));
        built("order of OUTPUTS: build", x, 40, 1);
        has("order of OUTPUTS: 0", x, 63, 5);
        has("order of OUTPUTS: 1", x, 0, 6);
        has("order of OUTPUTS: 2", x, 40, 7);
    }

    /** "for each INPUT [..] in order": a file that was told six times is six INPUTS. */
    private static void sameInputTwice() {
        BuildDesk x = oneStep(5, 1, 1, 1, 1, 1, 1);
        Check.yes("same INPUT: source", x.source(1, 77));
        Check.no("same INPUT: a 7th time", x.input(0, 1));
        built("same INPUT: build", x, 10, 1);
        int h = 5;
        for (int i = 0; i < 6; i++) {
            h = (h ^ 77) * FACTOR;
        }
        has("same INPUT: h", x, 10, h);
    }

    /** "A file is the OUTPUT of one step at most". */
    private static void outputOfOneStepAtMost() {
        BuildDesk x = oneStep(5);
        Check.tell(x, 39, 50, 1, 20);
        Check.no("one step at most: of another", x.output(39, 10));
        Check.no("one step at most: of the same", x.output(0, 10));
        built("one step at most: build", x, 10, 1);
        Check.due("one step at most: made by the first", x.begun(0, 0), 0);
        has("one step at most: as OUTPUT 0 of it", x, 10, 5);
    }

    /** "one that is of none is a SOURCE": an INPUT too, until a step makes it. */
    private static void ofNoneIsSource() {
        BuildDesk x = oneStep(5, 1);
        Check.yes("SOURCE: an INPUT", x.source(1, 3));
        Check.tell(x, 1, 6, 1, 1);
        Check.no("SOURCE: an OUTPUT is none", x.source(1, 4));
        Check.yes("SOURCE: drop", x.drop(1));
        Check.yes("SOURCE: again", x.source(1, 4));
        built("SOURCE: build", x, 10, 1);
        has("SOURCE: taken", x, 10, (5 ^ 4) * FACTOR);
    }

    /** "h = (h xor c) * 16777619 (as ints)". */
    private static void productWrapsAround() {
        BuildDesk x = oneStep(0, 1);
        Check.yes("wrap: source", x.source(1, 0x100));
        built("wrap: build", x, 10, 1);
        has("wrap: 2 to the 32nd goes", x, 10, 0x00019300);
        Check.yes("wrap: source", x.source(1, -1));
        built("wrap: build", x, 10, 1);
        has("wrap: below 0", x, 10, -16777619);
        Check.yes("wrap: source", x.source(1, 128));
        built("wrap: build", x, 10, 1);
        has("wrap: into the sign", x, 10, -2147432064);
        Check.yes("wrap: source", x.source(1, Edge.LEAST));
        built("wrap: build", x, 10, 1);
        has("wrap: the sign alone stays", x, 10, Edge.LEAST);
        Check.yes("wrap: source", x.source(1, Edge.GREATEST));
        built("wrap: build", x, 10, 1);
        has("wrap: the greatest", x, 10, 2130706029);
    }

    /** "the CONTENT (h + i)": behind the greatest int comes the least. */
    private static void sumWrapsAround() {
        BuildDesk x = oneStep(Edge.GREATEST);
        Check.yes("h + i: outputs", x.output(0, 11) && x.output(0, 12));
        built("h + i: build", x, 10, 1);
        has("h + i: 0", x, 10, Edge.GREATEST);
        has("h + i: 1 wraps", x, 11, Edge.LEAST);
        has("h + i: 2 wraps", x, 12, Edge.LEAST + 1);
        Check.yes("h + i: step", x.step(0, -1, -1, 1));
        built("h + i: build", x, 10, 1);
        has("h + i: -1", x, 10, -1);
        has("h + i: 0 behind -1", x, 11, 0);
        has("h + i: 1 behind -1", x, 12, 1);
    }

    /** "(h + i) and MASK": the sum first. */
    private static void sumBeforeMask() {
        BuildDesk x = new BuildDesk();
        Check.yes("sum first: step", x.step(0, 7, 3, 1));
        Check.yes("sum first: outputs", x.output(0, 10) && x.output(0, 11) && x.output(0, 12));
        built("sum first: build", x, 10, 1);
        has("sum first: 7 and 3", x, 10, 3);
        has("sum first: 8 and 3", x, 11, 0);
        has("sum first: 9 and 3", x, 12, 1);
    }

    /** "It is MADE then, as it is told now, with these CONTENTS of its INPUTS." */
    private static void contentsAtTheEnd() {
        BuildDesk x = oneStep(5, 1);
        Check.yes("MADE: source", x.source(1, 8));
        built("MADE: build", x, 10, 1);
        Check.yes("MADE: told otherwise", x.step(0, 6, -1, 1) && x.source(1, 9));
        built("MADE: build", x, 10, 1);
        Check.due("MADE: as it is told now", x.reason(0), 0);
        Check.yes("MADE: back", x.step(0, 5, -1, 1) && x.source(1, 8));
        Check.due("MADE: as it was before is not as MADE last", x.reason(0), 2);
        Check.yes("MADE: as last", x.step(0, 6, -1, 1));
        Check.due("MADE: nor is what it took before", x.reason(0), 4);
    }

    /** "1 it was never MADE": whatever its OUTPUTS and INPUTS have. */
    private static void neverMade() {
        BuildDesk x = oneStep(5, 1);
        Check.due("never MADE: nothing has CONTENT", x.reason(0), 1);
        Check.yes("never MADE: source", x.source(1, 8) && x.source(11, 3) && x.output(0, 11));
        Check.refuses("never MADE: a file that it does not make", IllegalStateException.class,
                () -> x.build(30, 1));
        Check.due("never MADE: by a refused build", x.reason(0), 1);
        Check.yes("never MADE: an empty step", x.step(1, 0, 0, 1));
        Check.due("never MADE: an empty step is DUE", x.reason(1), 1);
        Check.yes("never MADE: told again", x.step(1, 0, 0, 1));
        Check.due("never MADE: nor by telling it again", x.reason(1), 1);
    }

    /** "(or not since it was told anew behind drop())". */
    private static void madeButNotSinceDrop() {
        BuildDesk x = oneStep(5, 1);
        Check.yes("behind drop: source", x.source(1, 8));
        built("behind drop: build", x, 10, 1);
        Check.yes("behind drop: drop", x.drop(0));
        Check.tell(x, 0, 5, 1, 10, 1);
        Check.due("behind drop: DUE though all is as it was", x.reason(0), 1);
        built("behind drop: build", x, 10, 1);
        Check.due("behind drop: its REASON", x.begun(0, 4), 1);
        Check.due("behind drop: MADE since", x.reason(0), 0);
    }

    /** "2 its RECIPE, MASK, INPUTS or OUTPUTS are others": by one bit, by one file. */
    private static void othersThanWhenMadeLast() {
        BuildDesk x = oneStep(0, 1);
        Check.yes("others: source", x.source(1, 8) && x.source(11, 1));
        built("others: build", x, 10, 1);
        for (int bit = 0; bit < 32; bit++) {
            Check.yes("others: RECIPE", x.step(0, 1 << bit, -1, 1));
            Check.due("others: bit " + bit + " of RECIPE", x.reason(0), 2);
            Check.yes("others: MASK", x.step(0, 0, ~(1 << bit), 1));
            Check.due("others: bit " + bit + " of MASK", x.reason(0), 2);
            Check.yes("others: back", x.step(0, 0, -1, 1));
            Check.due("others: as it was", x.reason(0), 0);
        }
        Check.yes("others: INPUT", x.input(0, 1));
        Check.due("others: the same INPUT once more", x.reason(0), 2);
        built("others: build", x, 10, 1);
        Check.yes("others: OUTPUT", x.output(0, 11));
        Check.due("others: an OUTPUT that has CONTENT", x.reason(0), 2);
        built("others: build", x, 10, 1);
        Check.due("others: MADE", x.reason(0), 0);
    }

    /** 2 does not name the DURATION. */
    private static void durationIsNoReason() {
        BuildDesk x = oneStep(0);
        built("DURATION: build", x, 10, 1);
        Check.yes("DURATION: step", x.step(0, 0, -1, 100));
        Check.due("DURATION: no REASON", x.reason(0), 0);
        built("DURATION: not DUE", x, 10, 0);
        Check.due("DURATION: but it is in the RANK", x.count(3), 100);
    }

    /** "3 an OUTPUT has no CONTENT": the first, the next, the last. */
    private static void outputWithoutContent() {
        BuildDesk x = oneStep(5);
        Check.yes("3: outputs", x.output(0, 11) && x.output(0, 12));
        for (int file = 10; file <= 12; file++) {
            built("3: build", x, file, 1);
            Check.due("3: all have", x.reason(0), 0);
            Check.yes("3: spoil", x.spoil(file));
            Check.due("3: " + file + " has none", x.reason(0), 3);
        }
    }

    /** "4 an INPUT has another CONTENT than when it was MADE last, or none": each of the six. */
    private static void inputWithAnotherOrNone() {
        BuildDesk x = oneStep(5, 0, 1, 2, 3, 4, 5);
        for (int file = 0; file < 6; file++) {
            Check.yes("4: source", x.source(file, 0));
        }
        built("4: build", x, 10, 1);
        for (int file = 0; file < 6; file++) {
            Check.yes("4: source", x.source(file, Edge.LEAST));
            Check.due("4: another in " + file, x.reason(0), 4);
            Check.yes("4: spoil", x.spoil(file));
            Check.due("4: none in " + file, x.reason(0), 4);
            Check.yes("4: source", x.source(file, 0));
            Check.due("4: the same in " + file, x.reason(0), 0);
        }
    }

    /** "with the first REASON that holds": one more holds each time. */
    private static void firstReasonThatHolds() {
        BuildDesk x = oneStep(5, 1);
        Check.yes("first: source", x.source(1, 8));
        built("first: build", x, 10, 1);
        Check.due("first: none", x.reason(0), 0);
        Check.yes("first: spoil", x.spoil(1));
        Check.due("first: 4", x.reason(0), 4);
        Check.yes("first: spoil", x.spoil(10));
        Check.due("first: 3 and 4", x.reason(0), 3);
        Check.yes("first: step", x.step(0, 6, -1, 1));
        Check.due("first: 2, 3 and 4", x.reason(0), 2);
        Check.yes("first: drop", x.drop(0) && x.step(0, 6, -1, 1) && x.output(0, 10) && x.input(0, 1));
        Check.due("first: 1, 3 and 4", x.reason(0), 1);
    }
}
