import java.util.ArrayList;
import java.util.List;
import java.util.NoSuchElementException;
import java.util.TreeMap;
import java.util.TreeSet;

/** The document once more, written without regard to speed, for ModelTest to compare with. */
final class Model {
    private static final class Told {
        int recipe;
        int mask;
        int duration;
        final List<Integer> ins = new ArrayList<>();
        final List<Integer> outs = new ArrayList<>();
        /** RECIPE, MASK, INPUTS, OUTPUTS when it was MADE last, as a text; null if never. */
        String madeAs;
        List<Integer> madeOf;

        String asTold() {
            return recipe + " " + mask + " " + ins + " " + outs;
        }
    }

    private static final class Job {
        int step;
        int from;
        int to;
        int worker;
        int why;
        int h;
        List<Integer> taken;
    }

    private final TreeMap<Integer, Told> steps = new TreeMap<>();
    private final TreeMap<Integer, Integer> contents = new TreeMap<>();
    private List<Job> jobs = new ArrayList<>();
    private List<Integer> round = new ArrayList<>();
    private final TreeMap<Integer, Integer> ranks = new TreeMap<>();
    private int needed;
    private int greatest;

    boolean step(int s, int recipe, int mask, int duration) {
        if (s < 0 || s > 39 || duration < 1 || duration > 100) {
            return false;
        }
        Told t = steps.computeIfAbsent(s, key -> new Told());
        t.recipe = recipe;
        t.mask = mask;
        t.duration = duration;
        return true;
    }

    boolean input(int s, int file) {
        Told t = steps.get(s);
        return t != null && isFile(file) && t.ins.size() < 6 && t.ins.add(file);
    }

    boolean output(int s, int file) {
        Told t = steps.get(s);
        return t != null && isFile(file) && maker(file) == -1 && t.outs.size() < 3 && t.outs.add(file);
    }

    boolean drop(int s) {
        return steps.remove(s) != null;
    }

    boolean source(int file, int content) {
        if (!isFile(file) || maker(file) != -1) {
            return false;
        }
        contents.put(file, content);
        return true;
    }

    boolean spoil(int file) {
        return contents.remove(file) != null;
    }

    int build(int file, int workers) {
        if (!isFile(file) || workers < 1 || workers > 8) {
            throw new IllegalArgumentException();
        }
        TreeSet<Integer> need = new TreeSet<>();
        need(maker(file), need);
        for (int s : need) {
            if (reaches(s, s)) {
                round = shortestRound(s);
                throw new IllegalStateException();
            }
        }
        TreeSet<Integer> taken = new TreeSet<>(List.of(file));
        for (int s : need) {
            taken.addAll(steps.get(s).ins);
        }
        for (int f : taken) {
            if (maker(f) == -1 && !contents.containsKey(f)) {
                throw new IllegalStateException();
            }
        }
        needed = need.size();
        ranks.clear();
        greatest = 0;
        for (int s : need) {
            greatest = Math.max(greatest, rank(s, need));
        }
        jobs = new ArrayList<>();
        return run(need, workers);
    }

    /** Goes through the times one by one, not from end to end. */
    private int run(TreeSet<Integer> need, int workers) {
        TreeSet<Integer> done = new TreeSet<>();
        int end = 0;
        for (int time = 0; done.size() < need.size(); time++) {
            end = time;
            for (int s : need) {
                for (Job j : jobs) {
                    if (j.step == s && j.to == time) {
                        finish(j);
                        done.add(s);
                    }
                }
            }
            int before;
            do {
                before = done.size();
                for (int s : need) {
                    if (done.containsAll(waits(s)) && !hasBegun(s) && reason(s) == 0) {
                        done.add(s);
                    }
                }
            } while (done.size() > before);
            for (int w = freeWorker(time, workers); w != -1; w = freeWorker(time, workers)) {
                int best = -1;
                for (int s : need) {
                    boolean may = done.containsAll(waits(s)) && !hasBegun(s) && reason(s) != 0;
                    if (may && (best == -1 || rank(s, need) > rank(best, need))) {
                        best = s;
                    }
                }
                if (best == -1) {
                    break;
                }
                start(best, time, w);
            }
        }
        return end;
    }

    private void start(int s, int time, int worker) {
        Told t = steps.get(s);
        Job j = new Job();
        j.step = s;
        j.from = time;
        j.to = time + t.duration;
        j.worker = worker;
        j.why = reason(s);
        j.h = t.recipe;
        j.taken = new ArrayList<>();
        for (int f : t.ins) {
            j.taken.add(contents.get(f));
            j.h = (j.h ^ contents.get(f)) * 16777619;
        }
        jobs.add(j);
    }

    private void finish(Job j) {
        Told t = steps.get(j.step);
        for (int i = 0; i < t.outs.size(); i++) {
            contents.put(t.outs.get(i), j.h + i & t.mask);
        }
        t.madeAs = t.asTold();
        t.madeOf = j.taken;
    }

    private boolean hasBegun(int s) {
        for (Job j : jobs) {
            if (j.step == s) {
                return true;
            }
        }
        return false;
    }

    private int freeWorker(int time, int workers) {
        for (int w = 0; w < workers; w++) {
            boolean free = true;
            for (Job j : jobs) {
                free &= j.worker != w || j.to <= time;
            }
            if (free) {
                return w;
            }
        }
        return -1;
    }

    int count(int what) {
        int busy = 0;
        for (Job j : jobs) {
            busy += j.to - j.from;
        }
        int[] all = {needed, jobs.size(), busy, greatest, contents.size(), steps.size()};
        return what < 0 || what > 5 ? -1 : all[what];
    }

    int begun(int k, int what) {
        if (k < 0 || k >= jobs.size() || what < 0 || what > 4) {
            throw new NoSuchElementException();
        }
        Job j = jobs.get(k);
        return new int[] {j.step, j.from, j.to, j.worker, j.why}[what];
    }

    int cycle(int i) {
        if (i < 0 || i >= round.size()) {
            throw new NoSuchElementException();
        }
        return round.get(i);
    }

    int content(int file) {
        if (!contents.containsKey(file)) {
            throw new NoSuchElementException();
        }
        return contents.get(file);
    }

    int reason(int s) {
        Told t = steps.get(s);
        if (t == null) {
            return -1;
        }
        if (t.madeAs == null) {
            return 1;
        }
        if (!t.madeAs.equals(t.asTold())) {
            return 2;
        }
        if (!contents.keySet().containsAll(t.outs)) {
            return 3;
        }
        List<Integer> now = new ArrayList<>();
        for (int f : t.ins) {
            now.add(contents.get(f));
        }
        return now.equals(t.madeOf) ? 0 : 4;
    }

    private static boolean isFile(int file) {
        return file >= 0 && file <= 63;
    }

    private int maker(int file) {
        for (int s : steps.keySet()) {
            if (steps.get(s).outs.contains(file)) {
                return s;
            }
        }
        return -1;
    }

    private TreeSet<Integer> waits(int s) {
        TreeSet<Integer> found = new TreeSet<>();
        for (int f : steps.get(s).ins) {
            if (maker(f) != -1) {
                found.add(maker(f));
            }
        }
        return found;
    }

    private void need(int s, TreeSet<Integer> need) {
        if (s != -1 && need.add(s)) {
            for (int t : waits(s)) {
                need(t, need);
            }
        }
    }

    private boolean reaches(int from, int to) {
        TreeSet<Integer> seen = new TreeSet<>();
        for (int t : waits(from)) {
            need(t, seen);
        }
        return seen.contains(to);
    }

    /** All ways, one wait longer each time, in the order of their steps: the first that comes back. */
    private List<Integer> shortestRound(int s) {
        List<List<Integer>> ways = new ArrayList<>();
        ways.add(List.of(s));
        TreeSet<Integer> seen = new TreeSet<>();
        while (true) {
            List<List<Integer>> longer = new ArrayList<>();
            for (List<Integer> way : ways) {
                for (int t : waits(way.get(way.size() - 1))) {
                    if (t == s) {
                        return way;
                    }
                    // A way that comes later to the same step is no shorter and no less.
                    if (seen.add(t)) {
                        List<Integer> next = new ArrayList<>(way);
                        next.add(t);
                        longer.add(next);
                    }
                }
            }
            ways = longer;
        }
    }

    private int rank(int s, TreeSet<Integer> need) {
        Integer known = ranks.get(s);
        if (known != null) {
            return known;
        }
        int greatestBehind = 0;
        for (int t : need) {
            if (waits(t).contains(s)) {
                greatestBehind = Math.max(greatestBehind, rank(t, need));
            }
        }
        int rank = steps.get(s).duration + greatestBehind;
        ranks.put(s, rank);
        return rank;
    }
}
