import java.util.ArrayList;
import java.util.List;
import java.util.Set;
import java.util.TreeSet;

/**
 * The document once more, word for word and without a thought for speed: rows in lists, SEEN and LOST
 * as sets of numbers, THE MARK as a copy of all, a step done row by row on a copy that a throw drops.
 * ModelTest leads it and the program through the same jobs.
 */
final class Model {
    private static final int UNKNOWN = -1, OUTSIDE = -2, STATE = -3, ROOM = -4, THREW = -5, NONE = -9;

    private static final class Task {
        int number, sort, a, node;
        Integer poison;
        int width = 8, fails, waitsTill, place, sum;
        List<Integer> out = new ArrayList<>();
        List<Integer> aside = new ArrayList<>();

        Task copy() {
            Task t = new Task();
            t.number = number;
            t.sort = sort;
            t.a = a;
            t.node = node;
            t.poison = poison;
            t.width = width;
            t.fails = fails;
            t.waitsTill = waitsTill;
            t.place = place;
            t.sum = sum;
            t.out.addAll(out);
            t.aside.addAll(aside);
            return t;
        }
    }

    private static final class Channel {
        int from, to, given, taken;
        boolean kept;
        List<Integer> rows = new ArrayList<>();
        Set<Integer> seen = new TreeSet<>();
        Set<Integer> lost = new TreeSet<>();

        Channel copy() {
            Channel c = new Channel();
            c.from = from;
            c.to = to;
            c.given = given;
            c.taken = taken;
            c.kept = kept;
            c.rows.addAll(rows);
            c.seen.addAll(seen);
            c.lost.addAll(lost);
            return c;
        }
    }

    /** All that a step changes, so that it can be tried on a copy. */
    private static final class Work {
        List<Task> tasks = new ArrayList<>();
        List<Channel> channels = new ArrayList<>();
        long drawn = 1;

        Work copy() {
            Work w = new Work();
            tasks.forEach(t -> w.tasks.add(t.copy()));
            channels.forEach(c -> w.channels.add(c.copy()));
            w.drawn = drawn;
            return w;
        }

        List<Channel> to(int task) {
            return channels.stream().filter(c -> c.to == task).toList();
        }

        List<Channel> from(int task) {
            return channels.stream().filter(c -> c.from == task).toList();
        }

        /** Givers have lesser numbers, so those that a task asks for are known by then. */
        boolean[] done() {
            boolean[] done = new boolean[tasks.size()];
            for (Task t : tasks) {
                done[t.number] = t.sort == 0 ? t.place == t.a
                        : to(t.number).stream().allMatch(c -> done[c.from] && c.taken >= c.given);
            }
            return done;
        }

        boolean isDone(int task) {
            return done()[task];
        }

        boolean isOver(Channel c) {
            return c.taken >= c.given && isDone(c.from);
        }

        boolean mayTake(Task t) {
            return t.sort == 5 ? t.out.size() < 200 : from(t.number).stream().allMatch(c -> c.given < 64);
        }

        /** The channel whose row comes next; null if none has one. */
        Channel nextTo(Task t) {
            for (Channel c : to(t.number)) {
                if (!isOver(c)) {
                    return c.taken < c.rows.size() ? c : null;
                }
            }
            return null;
        }

        /** How many rows were taken, or THREW. */
        int step(Task t) {
            int count = 0;
            while (count < t.width && mayTake(t)) {
                Channel c = t.sort == 0 ? null : nextTo(t);
                if (t.sort == 0 ? t.place == t.a : c == null) {
                    return count;
                }
                int x = t.sort == 0 ? (5 * t.number + 3 * t.place) % 20 : c.rows.get(c.taken);
                boolean aside = t.aside.contains(t.place);
                if (!aside && t.poison != null && t.poison == x) {
                    return THREW;
                }
                if (c != null) {
                    c.seen.add(c.taken);
                    c.taken++;
                }
                t.place++;
                count++;
                if (!aside) {
                    use(t, x);
                }
            }
            return count;
        }

        void use(Task t, int x) {
            if (t.sort == 5) {
                t.out.add(x);
            } else if (t.sort == 4) {
                drawn = 16807 * drawn % 2147483647;
                give(t, x + (int) (drawn % 10));
            } else if (t.sort == 3) {
                t.sum += x;
                give(t, t.sum);
            } else if (t.sort == 1) {
                give(t, x + t.a);
            } else if (t.sort == 0 || x % t.a == 0) {
                give(t, x);
            }
        }

        void give(Task t, int x) {
            for (Channel c : from(t.number)) {
                if (c.given == c.rows.size()) {
                    c.rows.add(x);
                }
                c.given++;
            }
        }
    }

    private record Cause(int task, int time, int kind) {
    }

    private Work now;
    private Work mark;
    private List<Cause> causes;
    private Set<Integer> nodes;
    private int bound, time, marks, steps, begun;
    private boolean setsAside, stepped, ended;

    Model() {
        clear();
    }

    int clear() {
        int before = now == null ? 0 : now.tasks.size();
        now = new Work();
        mark = new Work();
        causes = new ArrayList<>();
        nodes = new TreeSet<>(Set.of(0, 1, 2, 3));
        bound = 3;
        time = 0;
        marks = 0;
        steps = 0;
        begun = 0;
        setsAside = false;
        stepped = false;
        ended = false;
        return before;
    }

    private boolean noTask(int task) {
        return task < 0 || task >= now.tasks.size();
    }

    private boolean noChannel(int channel) {
        return channel < 0 || channel >= now.channels.size();
    }

    int task(int sort, int a, int node) {
        if (!nodes.contains(node)) {
            return UNKNOWN;
        }
        boolean inside = sort == 0 ? 0 <= a && a <= 20 : sort == 1 ? -20 <= a && a <= 20
                : sort == 2 ? 1 <= a && a <= 5 : sort == 3 || sort == 4 || sort == 5;
        if (!inside) {
            return OUTSIDE;
        }
        if (stepped) {
            return STATE;
        }
        if (now.tasks.size() == 16) {
            return ROOM;
        }
        Task t = new Task();
        t.number = now.tasks.size();
        t.sort = sort;
        t.a = a;
        t.node = node;
        now.tasks.add(t);
        mark.tasks.add(t.copy());
        return t.number;
    }

    int channel(int from, int to, boolean kept) {
        if (noTask(from) || noTask(to)) {
            return UNKNOWN;
        }
        if (from >= to || now.tasks.get(from).sort == 5 || now.tasks.get(to).sort == 0) {
            return OUTSIDE;
        }
        if (stepped) {
            return STATE;
        }
        if (now.channels.size() == 40) {
            return ROOM;
        }
        Channel c = new Channel();
        c.from = from;
        c.to = to;
        c.kept = kept;
        now.channels.add(c);
        mark.channels.add(c.copy());
        return now.channels.size() - 1;
    }

    int poison(int task, int value) {
        if (noTask(task)) {
            return UNKNOWN;
        }
        if (value < -1000 || value > 1000) {
            return OUTSIDE;
        }
        if (stepped) {
            return STATE;
        }
        Integer before = now.tasks.get(task).poison;
        now.tasks.get(task).poison = value;
        return before == null ? 1001 : before;
    }

    int rule(int newBound, boolean aside) {
        if (newBound < 1 || newBound > 9) {
            return OUTSIDE;
        }
        int before = bound;
        bound = newBound;
        setsAside = aside;
        return before;
    }

    int step(int task) {
        if (noTask(task)) {
            return UNKNOWN;
        }
        if (now.tasks.get(task).waitsTill > time || ended) {
            return STATE;
        }
        stepped = true;
        Work trial = now.copy();
        int taken = trial.step(trial.tasks.get(task));
        if (taken != THREW) {
            now = trial;
            steps++;
            return taken;
        }
        Task t = now.tasks.get(task);
        if (t.width > 1) {
            t.width /= 2;
        } else if (setsAside && t.aside.size() < 8) {
            t.aside.add(t.place);
            t.width = 8;
        }
        fails(Set.of(task), 0);
        return THREW;
    }

    int fail(int task) {
        if (noTask(task)) {
            return UNKNOWN;
        }
        return ended ? STATE : fails(Set.of(task), 1);
    }

    int gone(int node) {
        if (node < 0 || node > 3) {
            return UNKNOWN;
        }
        if (!nodes.contains(node) || nodes.size() == 1 || ended) {
            return STATE;
        }
        nodes.remove(node);
        Set<Integer> on = new TreeSet<>();
        now.tasks.stream().filter(t -> t.node == node).forEach(t -> on.add(t.number));
        return fails(on, 2);
    }

    int lose(int channel) {
        if (noChannel(channel)) {
            return UNKNOWN;
        }
        Channel c = now.channels.get(channel);
        if (!c.kept || ended) {
            return STATE;
        }
        loseRows(channel);
        boolean allTaken = c.lost.stream().allMatch(k -> k < c.taken);
        return allTaken ? 0 : fails(Set.of(c.from), 3);
    }

    private void loseRows(int channel) {
        Channel c = now.channels.get(channel);
        for (int k = mark.channels.get(channel).rows.size(); k < c.rows.size(); k++) {
            c.lost.add(k);
        }
    }

    /** These tasks fail as one: how many begin again. */
    private int fails(Set<Integer> failing, int kind) {
        int most = 0;
        for (int number : failing) {
            if (causes.size() < 64) {
                causes.add(new Cause(number, time, kind));
            }
            Task t = now.tasks.get(number);
            t.fails++;
            ended |= t.fails > bound;
            most = Math.max(most, t.fails);
        }
        if (ended) {
            return 0;
        }
        if (kind == 2) {
            leaveNode(failing);
        }
        Set<Integer> region = regionOf(failing);
        int till = time + (int) Math.min(16, Math.pow(2, most - 1));
        beginAgain(region, till);
        begun += region.size();
        return region.size();
    }

    private void leaveNode(Set<Integer> leaving) {
        for (int number : leaving) {
            int best = -1;
            long fewest = 99;
            for (int node : nodes) {
                long there = now.tasks.stream().filter(t -> t.node == node).count();
                if (there < fewest) {
                    best = node;
                    fewest = there;
                }
            }
            now.tasks.get(number).node = best;
        }
        for (int c = 0; c < now.channels.size(); c++) {
            if (now.channels.get(c).kept && leaving.contains(now.channels.get(c).from)) {
                loseRows(c);
            }
        }
    }

    private Set<Integer> regionOf(Set<Integer> failing) {
        Set<Integer> region = new TreeSet<>(failing);
        int before;
        do {
            before = region.size();
            Set<Integer> unsteady = unsteadyOf(region);
            for (int k = 0; k < now.channels.size(); k++) {
                Channel c = now.channels.get(k);
                if (!c.kept && (region.contains(c.from) || region.contains(c.to))) {
                    region.add(c.from);
                    region.add(c.to);
                }
                if (c.kept && region.contains(c.to) && !c.lost.isEmpty()) {
                    region.add(c.from);
                }
                int settled = settled(k);
                if (unsteady.contains(c.from) && c.seen.stream().anyMatch(row -> row >= settled)) {
                    region.add(c.to);
                }
            }
        } while (region.size() > before);
        return region;
    }

    private int settled(int channel) {
        Channel then = mark.channels.get(channel);
        return Math.max(then.rows.size(), then.taken);
    }

    private Set<Integer> unsteadyOf(Set<Integer> region) {
        Set<Integer> unsteady = new TreeSet<>();
        int before;
        do {
            before = unsteady.size();
            for (int number : region) {
                boolean fed = now.to(number).stream().anyMatch(c -> unsteady.contains(c.from));
                if (now.tasks.get(number).sort == 4 || fed) {
                    unsteady.add(number);
                }
            }
        } while (unsteady.size() > before);
        return unsteady;
    }

    private void beginAgain(Set<Integer> region, int till) {
        Set<Integer> unsteady = unsteadyOf(region);
        for (int number : region) {
            Task t = now.tasks.get(number);
            Task then = mark.tasks.get(number);
            t.place = then.place;
            t.sum = then.sum;
            t.out = new ArrayList<>(then.out);
            t.waitsTill = Math.max(t.waitsTill, till);
        }
        for (int k = 0; k < now.channels.size(); k++) {
            Channel c = now.channels.get(k);
            Channel then = mark.channels.get(k);
            if (region.contains(c.to)) {
                c.taken = then.taken;
            }
            if (!region.contains(c.from)) {
                continue;
            }
            c.given = then.given;
            if (unsteady.contains(c.from)) {
                int settled = settled(k);
                c.seen.removeIf(row -> row >= settled);
            }
            if (!c.kept || unsteady.contains(c.from) || !c.lost.isEmpty()) {
                c.rows = new ArrayList<>(then.rows);
                c.lost.clear();
            }
        }
    }

    int tick(int n) {
        if (n < 1 || n > 100) {
            return OUTSIDE;
        }
        time = Math.min(1000000, time + n);
        return time;
    }

    private int waiting() {
        return (int) now.tasks.stream().filter(t -> t.waitsTill > time).count();
    }

    int mark() {
        if (waiting() > 0 || ended) {
            return STATE;
        }
        now.channels.forEach(c -> c.lost.clear());
        mark = now.copy();
        return ++marks;
    }

    int region(int task) {
        if (noTask(task)) {
            return UNKNOWN;
        }
        return regionOf(Set.of(task)).stream().mapToInt(t -> 1 << t).sum();
    }

    int taskAt(int task, int what) {
        if (noTask(task)) {
            return UNKNOWN;
        }
        if (what < 0 || what > 9) {
            return OUTSIDE;
        }
        Task t = now.tasks.get(task);
        return new int[] {t.sort, t.node, t.place, t.sum, t.width, t.fails, Math.max(0, t.waitsTill - time),
            now.isDone(task) ? 1 : 0, t.out.size(), t.aside.size()}[what];
    }

    int channelAt(int channel, int what) {
        if (noChannel(channel)) {
            return UNKNOWN;
        }
        if (what < 0 || what > 8) {
            return OUTSIDE;
        }
        Channel c = now.channels.get(channel);
        return new int[] {c.from, c.to, c.kept ? 1 : 0, c.rows.size(), c.given, c.taken, c.lost.size(),
            now.isOver(c) ? 1 : 0, c.seen.size()}[what];
    }

    private static int at(List<Integer> rows, int k) {
        return k < 0 || k >= rows.size() ? NONE : rows.get(k);
    }

    int row(int channel, int k) {
        return noChannel(channel) ? UNKNOWN : at(now.channels.get(channel).rows, k);
    }

    int out(int task, int k) {
        return noTask(task) ? UNKNOWN : at(now.tasks.get(task).out, k);
    }

    int aside(int task, int k) {
        return noTask(task) ? UNKNOWN : at(now.tasks.get(task).aside, k);
    }

    int cause(int k, int what) {
        if (what < 0 || what > 2) {
            return OUTSIDE;
        }
        if (k < 0 || k >= causes.size()) {
            return NONE;
        }
        Cause cause = causes.get(k);
        return what == 0 ? cause.task : what == 1 ? cause.time : cause.kind;
    }

    int told(int what) {
        if (what < 0 || what > 10) {
            return OUTSIDE;
        }
        int done = (int) now.tasks.stream().filter(t -> now.isDone(t.number)).count();
        return new int[] {now.tasks.size(), now.channels.size(), steps, time, marks, causes.size(),
            ended ? 1 : 0, waiting(), done, nodes.size(), begun}[what];
    }
}
