import java.util.Random;

/** Mixed runs of calls, always the same ones, on a BuildDesk and on the Model beside it. */
public final class ModelTest {
    private static final int CALLS = 512;
    private static final int[] ODD = {-1, 40, 64, 41, 65, 1 << 30, Integer.MIN_VALUE, Integer.MAX_VALUE};

    private final Random dice;
    private final int run;
    private final int steps;
    private final int files;
    private final boolean forward;
    private BuildDesk desk = new BuildDesk();
    private Model model = new Model();
    private int calls;

    private ModelTest(int run) {
        this.run = run;
        dice = new Random(run);
        steps = new int[] {4, 8, 14, 40}[run % 4];
        files = Math.min(64, steps * 2);
        // Half of the runs keep INPUTS below OUTPUTS, so that rounds are rare and builds go deep.
        forward = run % 8 < 4;
    }

    public static void main(String[] args) {
        for (int run = 0; run < 1200; run++) {
            new ModelTest(run).play();
        }
        Check.end();
    }

    private void play() {
        for (int s = 0; s < steps && calls < CALLS; s++) {
            setUp(s);
        }
        while (calls < CALLS) {
            change();
            if (dice.nextInt(3) == 0) {
                buildAndAsk();
            } else {
                ask();
            }
        }
    }

    private void setUp(int s) {
        step(s, dice.nextInt(8), mask(), duration());
        output(s, fileAbove(s));
        for (int i = dice.nextInt(4); i > 0; i--) {
            input(s, forward ? dice.nextInt(files / 2 + s) % files : file());
        }
        if (dice.nextInt(3) == 0) {
            output(s, fileAbove(s));
        }
        if (dice.nextInt(5) != 0) {
            source(s < files / 2 ? s : file(), dice.nextInt(4));
        }
    }

    private int fileAbove(int s) {
        return forward ? Math.min(63, files / 2 + s) : file();
    }

    private int mask() {
        return new int[] {-1, 0, 1, 3, Integer.MIN_VALUE}[dice.nextInt(5)];
    }

    private int duration() {
        return dice.nextInt(6) == 0 ? 100 - dice.nextInt(2) : 1 + dice.nextInt(5);
    }

    private int odd() {
        return ODD[dice.nextInt(ODD.length)];
    }

    private int number() {
        return dice.nextInt(40) == 0 ? odd() : dice.nextInt(steps);
    }

    private int file() {
        return dice.nextInt(40) == 0 ? odd() : dice.nextInt(files);
    }

    private void change() {
        switch (dice.nextInt(12)) {
            case 0:
                step(number(), dice.nextInt(3), mask(), dice.nextInt(9) == 0 ? odd() : duration());
                break;
            case 1:
                input(number(), forward ? dice.nextInt(files / 2) : file());
                break;
            case 2:
                output(number(), file());
                break;
            case 3:
                if (dice.nextInt(3) == 0) {
                    drop(number());
                }
                break;
            case 4:
            case 5:
                spoil(file());
                break;
            default:
                source(file(), dice.nextInt(4));
                break;
        }
    }

    private void buildAndAsk() {
        final int file = file();
        final int workers = dice.nextInt(30) == 0 ? odd() : dice.nextInt(10);
        same("build(" + file + ", " + workers + ")",
                () -> desk.build(file, workers), () -> model.build(file, workers));
        for (int i = 0; i < 8; i++) {
            ask();
        }
    }

    private void ask() {
        final int what = dice.nextInt(30) == 0 ? odd() : dice.nextInt(7);
        final int k = dice.nextInt(30) == 0 ? odd() : dice.nextInt(Math.max(1, model.count(1)) + 1);
        final int s = number();
        final int file = file();
        switch (dice.nextInt(7)) {
            case 0:
                same("count(" + what + ")", () -> desk.count(what), () -> model.count(what));
                break;
            case 1:
            case 2:
            case 3:
                same("begun(" + k + ", " + what + ")", () -> desk.begun(k, what), () -> model.begun(k, what));
                break;
            case 4:
                same("cycle(" + k + ")", () -> desk.cycle(k), () -> model.cycle(k));
                break;
            case 5:
                same("content(" + file + ")", () -> desk.content(file), () -> model.content(file));
                break;
            default:
                same("reason(" + s + ")", () -> desk.reason(s), () -> model.reason(s));
                break;
        }
    }

    private void step(int s, int recipe, int mask, int duration) {
        same("step(" + s + ", " + recipe + ", " + mask + ", " + duration + ")",
                () -> desk.step(s, recipe, mask, duration) ? 1 : 0,
                () -> model.step(s, recipe, mask, duration) ? 1 : 0);
    }

    private void input(int s, int file) {
        same("input(" + s + ", " + file + ")",
                () -> desk.input(s, file) ? 1 : 0, () -> model.input(s, file) ? 1 : 0);
    }

    private void output(int s, int file) {
        same("output(" + s + ", " + file + ")",
                () -> desk.output(s, file) ? 1 : 0, () -> model.output(s, file) ? 1 : 0);
    }

    private void drop(int s) {
        same("drop(" + s + ")", () -> desk.drop(s) ? 1 : 0, () -> model.drop(s) ? 1 : 0);
    }

    private void source(int file, int content) {
        same("source(" + file + ", " + content + ")",
                () -> desk.source(file, content) ? 1 : 0, () -> model.source(file, content) ? 1 : 0);
    }

    private void spoil(int file) {
        same("spoil(" + file + ")", () -> desk.spoil(file) ? 1 : 0, () -> model.spoil(file) ? 1 : 0);
    }

    private void same(String call, Check.Call one, Check.Call other) {
        if (calls < CALLS) {
            calls++;
            Check.due("run " + run + ", call " + calls + ", " + call, Check.outcome(one), Check.outcome(other));
        }
    }
}
