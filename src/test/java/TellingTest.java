import java.util.NoSuchElementException;

/** Promises 1 to 7 and 12: a new object, and what is told of steps and files. */
public final class TellingTest {
    private static final int[] NO_STEP = {-1, 40, Integer.MIN_VALUE, Integer.MAX_VALUE};
    private static final int[] NO_FILE = {-1, 64, Integer.MIN_VALUE, Integer.MAX_VALUE};

    public static void main(String[] args) {
        newObject();
        step();
        input();
        output();
        drop();
        dropOfThree();
        source();
        spoil();
        content();
        Check.end();
    }

    private static void newObject() {
        BuildDesk x = new BuildDesk();
        for (int what = 0; what <= 5; what++) {
            Check.due("1: count " + what, x.count(what), 0);
        }
        Check.refuses("1: begun", NoSuchElementException.class, () -> x.begun(0, 0));
        Check.refuses("1: cycle", NoSuchElementException.class, () -> x.cycle(0));
        for (int file = 0; file < 64; file++) {
            final int f = file;
            Check.refuses("1: content " + f, NoSuchElementException.class, () -> x.content(f));
            Check.refuses("1: build " + f, IllegalStateException.class, () -> x.build(f, 1));
        }
        for (int s = 0; s < 40; s++) {
            Check.due("1: reason " + s, x.reason(s), BuildDesk.NONE);
        }
    }

    private static void step() {
        BuildDesk x = new BuildDesk();
        Check.yes("2: step 0, DURATION 1", x.step(0, 1, 1, 1));
        Check.yes("2: step 39, DURATION 100", x.step(39, Integer.MIN_VALUE, Integer.MAX_VALUE, 100));
        Check.due("2: steps there", x.count(5), 2);
        for (int s : NO_STEP) {
            Check.no("2: step " + s, x.step(s, 1, 1, 1));
        }
        for (int duration : new int[] {0, 101, -1, Integer.MIN_VALUE, Integer.MAX_VALUE}) {
            Check.no("2: DURATION " + duration, x.step(1, 1, 1, duration));
        }
        Check.due("2: steps there after refusals", x.count(5), 2);
        Check.due("2: a refused one is not there", x.reason(1), BuildDesk.NONE);
        toldAgain();
    }

    private static void toldAgain() {
        BuildDesk x = new BuildDesk();
        Check.tell(x, 0, 7, 5, 10, 1);
        Check.yes("2: told again", x.step(0, 9, 15, 6));
        Check.due("2: one step", x.count(5), 1);
        Check.yes("2: source", x.source(1, 9));
        Check.no("2: a refused DURATION keeps the step", x.step(0, 1, 1, 101));
        Check.answers("2: OUTPUT stays, DURATION is new", 6, () -> x.build(10, 1));
        Check.answers("2: INPUT stays, RECIPE is new", 0, () -> x.content(10));
        Check.yes("2: MASK is told", x.step(0, 9, 8, 6));
        Check.yes("2: source", x.source(1, 8));
        Check.answers("2: build", 6, () -> x.build(10, 1));
        Check.answers("2: MASK is new", 16777619 & 8, () -> x.content(10));
    }

    private static void input() {
        BuildDesk x = new BuildDesk();
        Check.no("3: no such step", x.input(3, 1));
        Check.yes("3: step", x.step(3, 5, -1, 1));
        for (int s : NO_STEP) {
            Check.no("3: step " + s, x.input(s, 1));
        }
        for (int file : NO_FILE) {
            Check.no("3: file " + file, x.input(3, file));
        }
        Check.yes("3: file 0", x.input(3, 0));
        Check.yes("3: file 63", x.input(3, 63));
        Check.yes("3: the same again", x.input(3, 0));
        Check.yes("3: 4th", x.input(3, 1));
        Check.yes("3: 5th", x.input(3, 2));
        Check.yes("3: 6th", x.input(3, 4));
        Check.no("3: 7th", x.input(3, 5));
        Check.yes("3: output", x.output(3, 20));
        int h = 5;
        for (int file : new int[] {0, 63, 0, 1, 2, 4}) {
            Check.yes("3: source", x.source(file, file + 100));
            h = (h ^ (file + 100)) * 16777619;
        }
        Check.answers("3: build, without the refused 7th", 1, () -> x.build(20, 1));
        Check.answers("3: all INPUTS in order", h, () -> x.content(20));
    }

    private static void output() {
        BuildDesk x = new BuildDesk();
        Check.no("4: no such step", x.output(3, 1));
        Check.yes("4: step", x.step(3, 5, -1, 1));
        Check.yes("4: step", x.step(4, 50, -1, 2));
        for (int s : NO_STEP) {
            Check.no("4: step " + s, x.output(s, 1));
        }
        for (int file : NO_FILE) {
            Check.no("4: file " + file, x.output(3, file));
        }
        Check.yes("4: source", x.source(0, 77));
        Check.yes("4: file 0", x.output(3, 0));
        Check.answers("4: its CONTENT stays", 77, () -> x.content(0));
        Check.no("4: an OUTPUT of its own", x.output(3, 0));
        Check.no("4: an OUTPUT of another", x.output(4, 0));
        Check.yes("4: file 63", x.output(3, 63));
        Check.yes("4: 3rd", x.output(3, 8));
        Check.no("4: 4th", x.output(3, 9));
        Check.yes("4: the refused one is a SOURCE", x.source(9, 1));
        Check.yes("4: another takes it", x.output(4, 9));
        Check.answers("4: build", 1, () -> x.build(8, 1));
        Check.answers("4: OUTPUT 0", 5, () -> x.content(0));
        Check.answers("4: OUTPUT 1", 6, () -> x.content(63));
        Check.answers("4: OUTPUT 2", 7, () -> x.content(8));
        Check.answers("4: no OUTPUT of it", 1, () -> x.content(9));
        Check.yes("4: an own INPUT may be told as OUTPUT", x.input(4, 11) && x.output(4, 11));
    }

    private static void drop() {
        BuildDesk x = new BuildDesk();
        for (int s : NO_STEP) {
            Check.no("5: step " + s, x.drop(s));
        }
        Check.no("5: not there", x.drop(39));
        Check.tell(x, 39, 5, 4, 10, 1);
        Check.yes("5: second OUTPUT", x.output(39, 11));
        Check.yes("5: source", x.source(1, 5));
        Check.answers("5: build", 4, () -> x.build(10, 1));
        Check.yes("5: spoil", x.spoil(11));
        Check.yes("5: drop", x.drop(39));
        Check.no("5: again", x.drop(39));
        Check.due("5: reason", x.reason(39), BuildDesk.NONE);
        Check.due("5: steps there", x.count(5), 0);
        Check.due("5: what was built stays told", Check.row(x, 0), "39 0 4 0 1");
        Check.answers("5: CONTENT stays", 0, () -> x.content(10));
        Check.refuses("5: none stays none", NoSuchElementException.class, () -> x.content(11));
        Check.yes("5: a SOURCE now", x.source(10, 3) && x.source(11, 4));
        Check.no("5: no input", x.input(39, 2));
        Check.no("5: no output", x.output(39, 2));
        toldAnew(x);
    }

    private static void dropOfThree() {
        BuildDesk x = new BuildDesk();
        Check.tell(x, 0, 5, 1, 10);
        Check.tell(x, 1, 5, 1, 0);
        Check.yes("5: three OUTPUTS", x.output(0, 11) && x.output(0, 12));
        Check.yes("5: drop of three", x.drop(0));
        Check.yes("5: all three are SOURCES", x.source(10, 1) && x.source(11, 2) && x.source(12, 3));
        Check.no("5: another's OUTPUT is none", x.source(0, 1));
        Check.yes("5: anew without files", x.step(0, 1, -1, 1) && x.output(1, 12) && x.drop(0));
        Check.no("5: what it made before stays another's", x.source(12, 1));
    }

    private static void toldAnew(BuildDesk x) {
        Check.tell(x, 39, 6, 2, 10, 2);
        Check.due("5: told anew it was never MADE", x.reason(39), 1);
        Check.yes("5: its OUTPUTS went", x.source(11, 9));
        Check.refuses("5: its INPUT is the new one", IllegalStateException.class, () -> x.build(10, 1));
        Check.yes("5: source", x.source(2, 6));
        Check.answers("5: build", 2, () -> x.build(10, 1));
        Check.answers("5: made of the new INPUT alone", 0, () -> x.content(10));
        Check.yes("5: another may take it behind drop()", x.drop(39) && x.step(0, 1, 1, 1) && x.output(0, 10));
    }

    private static void source() {
        BuildDesk x = new BuildDesk();
        for (int file : NO_FILE) {
            Check.no("6: file " + file, x.source(file, 1));
        }
        Check.due("6: files with CONTENT", x.count(4), 0);
        Check.yes("6: file 0", x.source(0, Integer.MIN_VALUE));
        Check.yes("6: file 63", x.source(63, Integer.MAX_VALUE));
        Check.yes("6: CONTENT 0 is one", x.source(5, 0));
        Check.yes("6: again", x.source(5, -1));
        Check.due("6: files with CONTENT", x.count(4), 3);
        Check.answers("6: content 0", Integer.MIN_VALUE, () -> x.content(0));
        Check.answers("6: content 63", Integer.MAX_VALUE, () -> x.content(63));
        Check.answers("6: content 5", -1, () -> x.content(5));
        Check.tell(x, 0, 1, 1, 5);
        Check.no("6: an OUTPUT", x.source(5, 8));
        Check.answers("6: refused, it stays", -1, () -> x.content(5));
    }

    private static void spoil() {
        BuildDesk x = new BuildDesk();
        for (int file : NO_FILE) {
            Check.no("7: file " + file, x.spoil(file));
        }
        Check.no("7: had none", x.spoil(0));
        Check.yes("7: source", x.source(0, 0) && x.source(63, 4));
        Check.yes("7: had one", x.spoil(0));
        Check.no("7: has none any more", x.spoil(0));
        Check.refuses("7: content", NoSuchElementException.class, () -> x.content(0));
        Check.answers("7: another stays", 4, () -> x.content(63));
        Check.yes("7: file 63", x.spoil(63));
        Check.due("7: files with CONTENT", x.count(4), 0);
        Check.tell(x, 0, 6, 1, 5);
        Check.answers("7: build", 1, () -> x.build(5, 1));
        Check.yes("7: an OUTPUT too", x.spoil(5));
        Check.refuses("7: its content", NoSuchElementException.class, () -> x.content(5));
        Check.no("7: it stays an OUTPUT", x.source(5, 1));
    }

    private static void content() {
        BuildDesk x = new BuildDesk();
        for (int file : NO_FILE) {
            Check.refuses("12: file " + file, NoSuchElementException.class, () -> x.content(file));
        }
        Check.yes("12: source", x.source(0, -1) && x.source(63, 0));
        Check.answers("12: -1 is a CONTENT", -1, () -> x.content(0));
        Check.answers("12: 0 is a CONTENT", 0, () -> x.content(63));
        Check.refuses("12: none", NoSuchElementException.class, () -> x.content(1));
    }
}
