import java.util.NoSuchElementException;

/**
 * A desk of steps that make files of files: which are due after a change, in which order
 * workers make them, and which of them wait for one another in a round.
 *
 * Sets of steps are held as the bits of a long: bit s stands for step s.
 */
public final class BuildDesk {
    public static final int NONE = -1;

    private static final int FILES = 64;
    private static final int STEPS = 40;
    private static final int INPUTS = 6;
    private static final int OUTPUTS = 3;
    private static final int LONGEST = 100;
    private static final int WORKERS = 8;
    private static final int FACTOR = 16777619;

    private static final int NEVER_MADE = 1;
    private static final int TOLD_OTHERWISE = 2;
    private static final int OUTPUT_LACKS = 3;
    private static final int INPUT_DIFFERS = 4;

    private final FileTable files;
    private final Step[] steps;
    private final Plan plan;
    private final Crew crew;
    private final Report report;
    private final Round round;

    public BuildDesk() {
        files = new FileTable();
        steps = new Step[STEPS];
        for (int s = 0; s < STEPS; s++) {
            steps[s] = new Step();
        }
        plan = new Plan();
        crew = new Crew();
        report = new Report();
        round = new Round();
    }

    public boolean step(int s, int recipe, int mask, int duration) {
        if (!isStepNumber(s) || duration < 1 || duration > LONGEST) {
            return false;
        }
        steps[s].tell(recipe, mask, duration);
        return true;
    }

    public boolean input(int s, int file) {
        return isThere(s) && isFile(file) && steps[s].addInput(file);
    }

    public boolean output(int s, int file) {
        if (!isThere(s) || !isSource(file) || !steps[s].addOutput(file)) {
            return false;
        }
        files.setMaker(file, s);
        return true;
    }

    public boolean drop(int s) {
        if (!isThere(s)) {
            return false;
        }
        steps[s].leave(files);
        return true;
    }

    public boolean source(int file, int content) {
        if (!isSource(file)) {
            return false;
        }
        files.fill(file, content);
        return true;
    }

    public boolean spoil(int file) {
        return isFile(file) && files.empty(file);
    }

    public int build(int file, int workers) throws IllegalArgumentException, IllegalStateException {
        if (!isFile(file)) {
            throw new IllegalArgumentException("no such file");
        }
        if (workers < 1 || workers > WORKERS) {
            throw new IllegalArgumentException("workers are 1 to 8");
        }
        plan.findNeeded(files.makerOf(file), steps, files);
        if (!plan.lineUp()) {
            round.find(plan);
            throw new IllegalStateException("steps wait for one another");
        }
        if (sourceLacks(file)) {
            throw new IllegalStateException("a source has no content");
        }
        plan.rankSteps(steps);
        report.open(plan);
        return makeNeeded(workers);
    }

    public int count(int what) {
        switch (what) {
            case 0:
                return report.needed;
            case 1:
                return report.begun;
            case 2:
                return report.busyTime;
            case 3:
                return report.greatestRank;
            case 4:
                return files.countFilled();
            case 5:
                return countSteps();
            default:
                return NONE;
        }
    }

    public int begun(int k, int what) throws NoSuchElementException {
        if (k < 0 || k >= report.begun || what < 0 || what >= Report.COLUMNS) {
            throw new NoSuchElementException("nothing such began");
        }
        return report.cell(k, what);
    }

    public int cycle(int i) throws NoSuchElementException {
        if (i < 0 || i >= round.length) {
            throw new NoSuchElementException("no such step of a round");
        }
        return round.members[i];
    }

    public int content(int file) throws NoSuchElementException {
        if (!isFile(file) || !files.isFilled(file)) {
            throw new NoSuchElementException("no content");
        }
        return files.contentOf(file);
    }

    public int reason(int s) {
        return isThere(s) ? steps[s].whyDue(files) : NONE;
    }

    private static boolean isFile(int file) {
        return file >= 0 && file < FILES;
    }

    private static boolean isStepNumber(int s) {
        return s >= 0 && s < STEPS;
    }

    private static long bit(int s) {
        return 1L << s;
    }

    private static boolean isIn(long set, int s) {
        return (set & bit(s)) != 0L;
    }

    private boolean isThere(int s) {
        return isStepNumber(s) && steps[s].there;
    }

    private boolean isSource(int file) {
        return isFile(file) && files.makerOf(file) == NONE;
    }

    private int countSteps() {
        int there = 0;
        for (int s = 0; s < STEPS; s++) {
            if (steps[s].there) {
                there++;
            }
        }
        return there;
    }

    private boolean sourceLacks(int file) {
        if (files.lacksSource(file)) {
            return true;
        }
        for (int s = 0; s < STEPS; s++) {
            if (isIn(plan.needed, s) && steps[s].lacksSource(files)) {
                return true;
            }
        }
        return false;
    }

    private int makeNeeded(int workers) {
        crew.comeIn();
        int time = 0;
        // Each turn but the first ends a step, so there are no more turns than this.
        for (int turn = 0; turn <= STEPS; turn++) {
            endSteps(time);
            passOverSteps();
            beginSteps(time, workers);
            int next = crew.nextEnd();
            if (next == NONE) {
                return time;
            }
            time = next;
        }
        return time;
    }

    private void endSteps(int time) {
        for (int s = 0; s < STEPS; s++) {
            if (crew.endsAt(s, time)) {
                steps[s].make(files);
                crew.end(s);
            }
        }
    }

    private void passOverSteps() {
        boolean more = true;
        for (int pass = 0; more && pass < STEPS; pass++) {
            more = false;
            for (int s = 0; s < STEPS; s++) {
                if (isReady(s) && steps[s].whyDue(files) == 0) {
                    crew.passOver(s);
                    more = true;
                }
            }
        }
    }

    private void beginSteps(int time, int workers) {
        for (int worker = 0; worker < workers && worker < WORKERS; worker++) {
            if (!crew.isBusy(worker)) {
                int s = nextToBegin();
                if (s == NONE) {
                    return;
                }
                int end = time + steps[s].duration;
                report.add(s, time, end, worker, steps[s].whyDue(files));
                crew.begin(s, worker, end);
            }
        }
    }

    /** The READY step of the greatest RANK; those that are not DUE have been passed over. */
    private int nextToBegin() {
        int best = NONE;
        int bestRank = 0;
        for (int s = 0; s < STEPS; s++) {
            if (isReady(s) && plan.rank[s] > bestRank) {
                best = s;
                bestRank = plan.rank[s];
            }
        }
        return best;
    }

    private boolean isReady(int s) {
        return isIn(plan.needed, s) && crew.isOpen(s) && crew.areDone(plan.waits[s]);
    }

    /** The files: what is in them, and of which step each is an OUTPUT. */
    private static final class FileTable {
        private final int[] contents = new int[FILES];
        private final boolean[] filled = new boolean[FILES];
        private final int[] makers = new int[FILES];

        FileTable() {
            for (int file = 0; file < FILES; file++) {
                makers[file] = NONE;
            }
        }

        int makerOf(int file) {
            return makers[file];
        }

        void setMaker(int file, int s) {
            makers[file] = s;
        }

        boolean isFilled(int file) {
            return filled[file];
        }

        int contentOf(int file) {
            return contents[file];
        }

        void fill(int file, int content) {
            contents[file] = content;
            filled[file] = true;
        }

        boolean empty(int file) {
            boolean had = filled[file];
            filled[file] = false;
            return had;
        }

        boolean lacksSource(int file) {
            return makers[file] == NONE && !filled[file];
        }

        int countFilled() {
            int full = 0;
            for (int file = 0; file < FILES; file++) {
                if (filled[file]) {
                    full++;
                }
            }
            return full;
        }
    }

    /** A step as it is told now, and as it was told when it was MADE last. */
    private static final class Step {
        private boolean there;
        private int recipe;
        private int mask;
        private int duration;
        private final int[] inputs = new int[INPUTS];
        private int inputCount;
        private final int[] outputs = new int[OUTPUTS];
        private int outputCount;

        private boolean made;
        private int madeRecipe;
        private int madeMask;
        private int madeInputCount;
        private int madeOutputCount;
        private final int[] madeContents = new int[INPUTS];

        void tell(int newRecipe, int newMask, int newDuration) {
            there = true;
            recipe = newRecipe;
            mask = newMask;
            duration = newDuration;
        }

        boolean addInput(int file) {
            if (inputCount >= INPUTS) {
                return false;
            }
            inputs[inputCount] = file;
            inputCount++;
            return true;
        }

        boolean addOutput(int file) {
            if (outputCount >= OUTPUTS) {
                return false;
            }
            outputs[outputCount] = file;
            outputCount++;
            return true;
        }

        void leave(FileTable files) {
            for (int i = 0; i < outputCount; i++) {
                files.setMaker(outputs[i], NONE);
            }
            there = false;
            made = false;
            inputCount = 0;
            outputCount = 0;
        }

        long waitsFor(FileTable files) {
            long set = 0L;
            for (int i = 0; i < inputCount; i++) {
                int maker = files.makerOf(inputs[i]);
                if (maker != NONE) {
                    set |= bit(maker);
                }
            }
            return set;
        }

        boolean lacksSource(FileTable files) {
            for (int i = 0; i < inputCount; i++) {
                if (files.lacksSource(inputs[i])) {
                    return true;
                }
            }
            return false;
        }

        /** The first REASON that holds, or 0. */
        int whyDue(FileTable files) {
            if (!made) {
                return NEVER_MADE;
            }
            if (isToldOtherwise()) {
                return TOLD_OTHERWISE;
            }
            if (outputLacks(files)) {
                return OUTPUT_LACKS;
            }
            return inputDiffers(files) ? INPUT_DIFFERS : 0;
        }

        /** Until the step is dropped its files only grow in number: as many are the same ones. */
        private boolean isToldOtherwise() {
            return recipe != madeRecipe || mask != madeMask
                    || inputCount != madeInputCount || outputCount != madeOutputCount;
        }

        private boolean outputLacks(FileTable files) {
            for (int i = 0; i < outputCount; i++) {
                if (!files.isFilled(outputs[i])) {
                    return true;
                }
            }
            return false;
        }

        private boolean inputDiffers(FileTable files) {
            for (int i = 0; i < inputCount; i++) {
                int file = inputs[i];
                if (!files.isFilled(file) || files.contentOf(file) != madeContents[i]) {
                    return true;
                }
            }
            return false;
        }

        /**
         * Called when the step ends: what it takes is then as it was when it began, for the
         * makers of its INPUTS were done before and no step is made twice in one build.
         */
        void make(FileTable files) {
            int h = recipe;
            for (int i = 0; i < inputCount; i++) {
                int taken = files.contentOf(inputs[i]);
                madeContents[i] = taken;
                h = (h ^ taken) * FACTOR;
            }
            for (int i = 0; i < outputCount; i++) {
                files.fill(outputs[i], (h + i) & mask);
            }
            made = true;
            madeRecipe = recipe;
            madeMask = mask;
            madeInputCount = inputCount;
            madeOutputCount = outputCount;
        }
    }

    /** What one build() goes by: the NEEDED steps, what each waits for, and their RANKS. */
    private static final class Plan {
        private final long[] waits = new long[STEPS];
        private final int[] line = new int[STEPS];
        private int lined;
        private final int[] rank = new int[STEPS];
        private long needed;

        void findNeeded(int last, Step[] steps, FileTable files) {
            for (int s = 0; s < STEPS; s++) {
                waits[s] = steps[s].waitsFor(files);
            }
            needed = last == NONE ? 0L : bit(last);
            boolean more = true;
            for (int pass = 0; more && pass < STEPS; pass++) {
                long before = needed;
                for (int s = 0; s < STEPS; s++) {
                    if (isIn(needed, s)) {
                        needed |= waits[s];
                    }
                }
                more = needed != before;
            }
        }

        /** Puts each NEEDED step behind all that it waits for; false if a round forbids it. */
        boolean lineUp() {
            long placed = 0L;
            lined = 0;
            for (int pass = 0; placed != needed && pass < STEPS; pass++) {
                for (int s = 0; s < STEPS; s++) {
                    if (isIn(needed & ~placed, s) && (waits[s] & ~placed) == 0L) {
                        line[lined] = s;
                        lined++;
                        placed |= bit(s);
                    }
                }
            }
            return placed == needed;
        }

        /** From the end of the line on, so that a step's RANK stands before it is handed on. */
        void rankSteps(Step[] steps) {
            for (int s = 0; s < STEPS; s++) {
                rank[s] = steps[s].duration;
            }
            for (int i = lined - 1; i >= 0; i--) {
                int s = line[i];
                for (int t = 0; t < STEPS; t++) {
                    if (isIn(waits[s], t)) {
                        rank[t] = Math.max(rank[t], steps[t].duration + rank[s]);
                    }
                }
            }
        }

        int greatestRank() {
            int greatest = 0;
            for (int i = 0; i < lined; i++) {
                greatest = Math.max(greatest, rank[line[i]]);
            }
            return greatest;
        }

        /** The NEEDED steps that wait for one of a set. */
        long waitingFor(long set) {
            long found = 0L;
            for (int s = 0; s < STEPS; s++) {
                if (isIn(needed, s) && (waits[s] & set) != 0L) {
                    found |= bit(s);
                }
            }
            return found;
        }
    }

    /** The round of the last build() that was refused for one. */
    private static final class Round {
        private final int[] members = new int[STEPS];
        private int length;
        /** In near[d]: the steps that come to the round's first one by d waits. */
        private final long[] near = new long[STEPS + 1];

        void find(Plan plan) {
            for (int s = 0; s < STEPS; s++) {
                if (isIn(plan.needed, s)) {
                    int shortest = measure(s, plan);
                    if (shortest > 0) {
                        walk(s, shortest, plan);
                        return;
                    }
                }
            }
        }

        /** How many waits lead from a step to itself at least; 0 if none do. */
        private int measure(int first, Plan plan) {
            near[0] = bit(first);
            for (int d = 1; d <= STEPS; d++) {
                near[d] = plan.waitingFor(near[d - 1]);
                if (isIn(near[d], first)) {
                    return d;
                }
            }
            return 0;
        }

        /** Takes the least step each time from which the way back is short enough. */
        private void walk(int first, int shortest, Plan plan) {
            int at = first;
            for (int i = 0; i < shortest && i < STEPS; i++) {
                members[i] = at;
                at = least(plan.waits[at] & near[shortest - i - 1], first);
            }
            length = shortest;
        }

        private static int least(long set, int otherwise) {
            for (int s = 0; s < STEPS; s++) {
                if (isIn(set, s)) {
                    return s;
                }
            }
            return otherwise;
        }
    }

    /** The workers of one build(), and how far the steps are. */
    private static final class Crew {
        private final boolean[] busy = new boolean[WORKERS];
        private final int[] workerOf = new int[STEPS];
        private final int[] endOf = new int[STEPS];
        private long running;
        private long done;

        void comeIn() {
            for (int worker = 0; worker < WORKERS; worker++) {
                busy[worker] = false;
            }
            running = 0L;
            done = 0L;
        }

        boolean isBusy(int worker) {
            return busy[worker];
        }

        boolean isOpen(int s) {
            return !isIn(running | done, s);
        }

        boolean areDone(long set) {
            return (set & ~done) == 0L;
        }

        void passOver(int s) {
            done |= bit(s);
        }

        void begin(int s, int worker, int end) {
            busy[worker] = true;
            workerOf[s] = worker;
            endOf[s] = end;
            running |= bit(s);
        }

        boolean endsAt(int s, int time) {
            return isIn(running, s) && endOf[s] == time;
        }

        void end(int s) {
            busy[workerOf[s]] = false;
            running &= ~bit(s);
            done |= bit(s);
        }

        int nextEnd() {
            int next = NONE;
            for (int s = 0; s < STEPS; s++) {
                if (isIn(running, s) && (next == NONE || endOf[s] < next)) {
                    next = endOf[s];
                }
            }
            return next;
        }
    }

    /** What is told of the last file that was BUILT. */
    private static final class Report {
        private static final int COLUMNS = 5;

        private int needed;
        private int begun;
        private int busyTime;
        private int greatestRank;
        private final int[] cells = new int[STEPS * COLUMNS];

        void open(Plan plan) {
            needed = plan.lined;
            begun = 0;
            busyTime = 0;
            greatestRank = plan.greatestRank();
        }

        void add(int s, int start, int end, int worker, int why) {
            if (begun >= STEPS) {
                return;
            }
            int at = begun * COLUMNS;
            cells[at] = s;
            cells[at + 1] = start;
            cells[at + 2] = end;
            cells[at + 3] = worker;
            cells[at + 4] = why;
            begun++;
            busyTime += end - start;
        }

        int cell(int k, int what) {
            return cells[k * COLUMNS + what];
        }
    }
}
