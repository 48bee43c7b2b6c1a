import java.util.Random;

/** Mixed runs of calls, always the same ones, on a BuildDesk and on the Model beside it. */
public final class ModelTest {
    private static final int CALLS = 512;
    private static final int[] ODD = {-1, 40, 64, 41, 65, 1 << 30, Integer.MIN_VALUE, Integer.MAX_VALUE};

    /** In orderly runs the files below this are SOURCES, and step s makes file BASE + s first. */
    private static final int BASE = 6;

    private final Random dice;
    private final int run;
    private final int steps;
    private final int files;
    private final boolean orderly;
    private final BuildDesk desk = new BuildDesk();
    private final Model model = new Model();
    private int calls;

    private ModelTest(int run) {
        this.run = run;
        dice = new Random(run);
        steps = new int[] {4, 8, 14, 40}[run % 4];
        // Half of the runs let steps take only what lower ones make, so that builds go deep.
        orderly = run % 8 < 4;
        files = Math.min(64, orderly ? BASE + steps + steps / 2 : steps * 2);
    }

    public static void main(String[] args) {
        for (int run = 0; run < 1600; run++) {
            new ModelTest(run).play();
        }
        Check.end();
    }

    private void play() {
        for (int file = 0; file < BASE; file++) {
            source(file, dice.nextInt(4));
        }
        for (int s = 0; s < steps; s++) {
            setUp(s);
        }
        while (calls < CALLS) {
            change();
            if (dice.nextInt(3) == 0) {
                buildAndAsk();
            } else {
                ask();
            }
        }
    }

    private void setUp(int s) {
        step(s, dice.nextInt(8), mask(), duration());
        output(s, orderly ? BASE + s : file());
        for (int i = dice.nextInt(4); i > 0; i--) {
            input(s, taken(s));
        }
        if (dice.nextInt(3) == 0) {
            output(s, orderly ? BASE + steps + dice.nextInt(steps) : file());
        }
    }

    /** A file for a step to take: in orderly runs one made not long before it. */
    private int taken(int s) {
        return orderly && s >= 0 && s < 40 ? Math.max(dice.nextInt(BASE), BASE + s - 1 - dice.nextInt(9)) : file();
    }

    private int sourceFile() {
        return orderly && dice.nextInt(8) != 0 ? dice.nextInt(BASE) : file();
    }

    private int mask() {
        return new int[] {-1, 0, 1, 3, Integer.MIN_VALUE}[dice.nextInt(5)];
    }

    private int duration() {
        return dice.nextInt(6) == 0 ? 100 - dice.nextInt(2) : 1 + dice.nextInt(5);
    }

    private int odd() {
        return ODD[dice.nextInt(ODD.length)];
    }

    private int number() {
        return dice.nextInt(40) == 0 ? odd() : dice.nextInt(steps);
    }

    private int file() {
        return dice.nextInt(40) == 0 ? odd() : dice.nextInt(files);
    }

    private void change() {
        switch (dice.nextInt(12)) {
            case 0:
                step(number(), dice.nextInt(3), mask(), dice.nextInt(9) == 0 ? odd() : duration());
                break;
            case 1:
                int s = number();
                input(s, taken(s));
                break;
            case 2:
                output(number(), file());
                break;
            case 3:
                dropAndTellAnew(number());
                break;
            case 4:
            case 5:
                spoil(orderly ? Math.max(BASE, file()) : file());
                break;
            default:
                source(sourceFile(), dice.nextInt(4));
                break;
        }
    }

    private void dropAndTellAnew(int s) {
        if (dice.nextInt(3) == 0) {
            drop(s);
            if (dice.nextInt(3) != 0) {
                setUp(s);
            }
        }
    }

    private void buildAndAsk() {
        final int file = orderly && dice.nextInt(3) != 0 ? BASE + steps - 1 - dice.nextInt(4) : file();
        final int workers = dice.nextInt(30) == 0 ? odd() : dice.nextInt(10);
        same("build(" + file + ", " + workers + ")",
                () -> desk.build(file, workers), () -> model.build(file, workers));
        for (int i = 0; i < 8 + model.count(1); i++) {
            ask();
        }
    }

    private void ask() {
        final int what = dice.nextInt(30) == 0 ? odd() : dice.nextInt(7);
        final int k = dice.nextInt(30) == 0 ? odd() : dice.nextInt(Math.max(3, model.count(1)) + 1);
        final int s = number();
        final int file = file();
        switch (dice.nextInt(7)) {
            case 0:
                same("count(" + what + ")", () -> desk.count(what), () -> model.count(what));
                break;
            case 1:
            case 2:
            case 3:
                same("begun(" + k + ", " + what + ")", () -> desk.begun(k, what), () -> model.begun(k, what));
                break;
            case 4:
                same("cycle(" + k + ")", () -> desk.cycle(k), () -> model.cycle(k));
                break;
            case 5:
                same("content(" + file + ")", () -> desk.content(file), () -> model.content(file));
                break;
            default:
                same("reason(" + s + ")", () -> desk.reason(s), () -> model.reason(s));
                break;
        }
    }

    private void step(int s, int recipe, int mask, int duration) {
        same("step(" + s + ", " + recipe + ", " + mask + ", " + duration + ")",
                () -> desk.step(s, recipe, mask, duration) ? 1 : 0,
                () -> model.step(s, recipe, mask, duration) ? 1 : 0);
    }

    private void input(int s, int file) {
        same("input(" + s + ", " + file + ")",
                () -> desk.input(s, file) ? 1 : 0, () -> model.input(s, file) ? 1 : 0);
    }

    private void output(int s, int file) {
        same("output(" + s + ", " + file + ")",
                () -> desk.output(s, file) ? 1 : 0, () -> model.output(s, file) ? 1 : 0);
    }

    private void drop(int s) {
        same("drop(" + s + ")", () -> desk.drop(s) ? 1 : 0, () -> model.drop(s) ? 1 : 0);
    }

    private void source(int file, int content) {
        same("source(" + file + ", " + content + ")",
                () -> desk.source(file, content) ? 1 : 0, () -> model.source(file, content) ? 1 : 0);
    }

    private void spoil(int file) {
        same("spoil(" + file + ")", () -> desk.spoil(file) ? 1 : 0, () -> model.spoil(file) ? 1 : 0);
    }

    private void same(String call, Check.Call one, Check.Call other) {
        if (calls < CALLS) {
            calls++;
            Check.due("run " + run + ", call " + calls + ", " + call, Check.outcome(one), Check.outcome(other));
        }
    }
}
