/**
 * A job of tasks that hand rows to one another over channels, and what of it is begun again when a
 * task fails. The document (../shared/DOC.md) numbers what each public method promises.
 *
 * <p>All objects and arrays are made by the constructor; no call makes any.
 */
public final class RegionRestarts {
    public static final int UNKNOWN = -1, OUTSIDE = -2, STATE = -3, ROOM = -4, THREW = -5, NONE = -9;

    private static final int MOST_TASKS = 16, MOST_CHANNELS = 40, MOST_NODES = 4;
    private static final int MOST_GIVEN = 64, MOST_OUT = 200, MOST_ASIDE = 8, MOST_CAUSES = 64;
    private static final int SOURCE = 0, ADD = 1, ONLY = 2, TOTAL = 3, DRAW = 4, SINK = 5;
    private static final int IT_THREW = 0, IT_WAS_TOLD = 1, ITS_NODE_WENT = 2, ROWS_WERE_LOST = 3;
    private static final int FULL_WIDTH = 8;
    private static final int MOST_POISON = 1000, NO_POISON = 1001;
    private static final int FIRST_BOUND = 3, MOST_BOUND = 9;
    private static final int MOST_WAIT = 16;
    private static final int MOST_TICK = 100, MOST_TIME = 1000000;

    private final Graph graph;
    private final Plan plan;
    private final Causes causes;
    private final boolean[] nodeIsThere;
    private int bound;
    private boolean setsAside;
    private int time;
    private long drawn;
    private int marks;
    private int steps;
    private int beginnings;
    private boolean stepWasTried;
    private boolean ended;

    public RegionRestarts() {
        graph = new Graph();
        plan = new Plan();
        causes = new Causes();
        nodeIsThere = new boolean[MOST_NODES];
        startAnew();
    }

    public int task(int sort, int a, int node) {
        if (!isNode(node) || !nodeIsThere[node]) {
            return UNKNOWN;
        }
        if (!mayBe(sort, a)) {
            return OUTSIDE;
        }
        if (stepWasTried) {
            return STATE;
        }
        if (graph.taskCount >= MOST_TASKS) {
            return ROOM;
        }
        return graph.addTask(sort, a, node);
    }

    public int channel(int from, int to, boolean kept) {
        if (!graph.hasTask(from) || !graph.hasTask(to)) {
            return UNKNOWN;
        }
        if (from >= to || graph.tasks[from].sort == SINK || graph.tasks[to].sort == SOURCE) {
            return OUTSIDE;
        }
        if (stepWasTried) {
            return STATE;
        }
        if (graph.channelCount >= MOST_CHANNELS) {
            return ROOM;
        }
        return graph.addChannel(from, to, kept);
    }

    public int poison(int task, int value) {
        if (!graph.hasTask(task)) {
            return UNKNOWN;
        }
        if (value < -MOST_POISON || value > MOST_POISON) {
            return OUTSIDE;
        }
        if (stepWasTried) {
            return STATE;
        }
        int before = graph.tasks[task].poisonValue;
        graph.tasks[task].poisonValue = value;
        return before;
    }

    public int rule(int bound, boolean aside) {
        if (bound < 1 || bound > MOST_BOUND) {
            return OUTSIDE;
        }
        int before = this.bound;
        this.bound = bound;
        setsAside = aside;
        return before;
    }

    public int step(int task) {
        if (!graph.hasTask(task)) {
            return UNKNOWN;
        }
        if (ended || graph.tasks[task].waitsStill(time) > 0) {
            return STATE;
        }
        stepWasTried = true;
        plan.fill(graph, task);
        if (plan.throwsInstead) {
            graph.tasks[task].narrowAfterThrow(setsAside);
            failAlone(task, IT_THREW);
            return THREW;
        }
        steps++;
        carryOut(task);
        return plan.count;
    }

    public int fail(int task) {
        if (!graph.hasTask(task)) {
            return UNKNOWN;
        }
        if (ended) {
            return STATE;
        }
        return failAlone(task, IT_WAS_TOLD);
    }

    public int gone(int node) {
        if (!isNode(node)) {
            return UNKNOWN;
        }
        if (!nodeIsThere[node] || nodesThere() <= 1 || ended) {
            return STATE;
        }
        nodeIsThere[node] = false;
        int failing = graph.tasksOn(node);
        int mostFails = blameAll(failing, ITS_NODE_WENT);
        if (ended) {
            return 0;
        }
        moveAway(failing);
        graph.loseAllFrom(failing);
        return beginAgain(failing, mostFails);
    }

    public int lose(int channel) {
        if (!graph.hasChannel(channel)) {
            return UNKNOWN;
        }
        Channel c = graph.channels[channel];
        if (!c.isKept || ended) {
            return STATE;
        }
        c.loseBehindMark();
        if (c.lost == 0 || c.taken >= c.held) {
            return 0;
        }
        return failAlone(c.from, ROWS_WERE_LOST);
    }

    public int tick(int n) {
        if (n < 1 || n > MOST_TICK) {
            return OUTSIDE;
        }
        time = Math.min(MOST_TIME, time + n);
        return time;
    }

    public int mark() {
        if (ended || graph.countWaiting(time) > 0) {
            return STATE;
        }
        graph.keepAsMark();
        marks++;
        return marks;
    }

    public int region(int task) {
        if (!graph.hasTask(task)) {
            return UNKNOWN;
        }
        return graph.regionOf(1 << task);
    }

    public int taskAt(int task, int what) {
        if (!graph.hasTask(task)) {
            return UNKNOWN;
        }
        Task t = graph.tasks[task];
        switch (what) {
            case 0: return t.sort;
            case 1: return t.node;
            case 2: return t.place;
            case 3: return t.sum;
            case 4: return t.width;
            case 5: return t.fails;
            case 6: return t.waitsStill(time);
            case 7: return asNumber(isIn(graph.doneTasks(), task));
            case 8: return t.outCount;
            case 9: return t.asideCount;
            default: return OUTSIDE;
        }
    }

    public int channelAt(int channel, int what) {
        if (!graph.hasChannel(channel)) {
            return UNKNOWN;
        }
        Channel c = graph.channels[channel];
        switch (what) {
            case 0: return c.from;
            case 1: return c.to;
            case 2: return asNumber(c.isKept);
            case 3: return c.held;
            case 4: return c.given;
            case 5: return c.taken;
            case 6: return c.lost;
            case 7: return asNumber(c.isOverAt(c.taken, graph.doneTasks()));
            case 8: return c.seen;
            default: return OUTSIDE;
        }
    }

    public int row(int channel, int k) {
        if (!graph.hasChannel(channel)) {
            return UNKNOWN;
        }
        Channel c = graph.channels[channel];
        return k >= 0 && k < c.held ? c.rows[k] : NONE;
    }

    public int out(int task, int k) {
        if (!graph.hasTask(task)) {
            return UNKNOWN;
        }
        Task t = graph.tasks[task];
        return k >= 0 && k < t.outCount ? t.outRows[k] : NONE;
    }

    public int aside(int task, int k) {
        if (!graph.hasTask(task)) {
            return UNKNOWN;
        }
        Task t = graph.tasks[task];
        return k >= 0 && k < t.asideCount ? t.asideNumbers[k] : NONE;
    }

    public int cause(int k, int what) {
        // OUTSIDE stands among the answers of which the first that fits is given; NONE does not.
        if (what < 0 || what > 2) {
            return OUTSIDE;
        }
        if (k < 0 || k >= causes.count) {
            return NONE;
        }
        switch (what) {
            case 0: return causes.tasks[k];
            case 1: return causes.times[k];
            default: return causes.kinds[k];
        }
    }

    public int told(int what) {
        switch (what) {
            case 0: return graph.taskCount;
            case 1: return graph.channelCount;
            case 2: return steps;
            case 3: return time;
            case 4: return marks;
            case 5: return causes.count;
            case 6: return asNumber(ended);
            case 7: return graph.countWaiting(time);
            case 8: return Integer.bitCount(graph.doneTasks());
            case 9: return nodesThere();
            case 10: return beginnings;
            default: return OUTSIDE;
        }
    }

    public int clear() {
        int before = graph.taskCount;
        startAnew();
        return before;
    }

    private void startAnew() {
        graph.taskCount = 0;
        graph.channelCount = 0;
        causes.count = 0;
        for (int n = 0; n < MOST_NODES; n++) {
            nodeIsThere[n] = true;
        }
        bound = FIRST_BOUND;
        setsAside = false;
        time = 0;
        drawn = 1;
        marks = 0;
        steps = 0;
        beginnings = 0;
        stepWasTried = false;
        ended = false;
    }

    private static boolean isNode(int node) {
        return node >= 0 && node < MOST_NODES;
    }

    private static boolean mayBe(int sort, int a) {
        switch (sort) {
            case SOURCE: return a >= 0 && a <= 20;
            case ADD: return a >= -20 && a <= 20;
            case ONLY: return a >= 1 && a <= 5;
            default: return sort >= TOTAL && sort <= SINK;
        }
    }

    private static boolean isIn(int set, int number) {
        return ((set >> number) & 1) == 1;
    }

    private static int asNumber(boolean yes) {
        return yes ? 1 : 0;
    }

    private int nodesThere() {
        int count = 0;
        for (int n = 0; n < MOST_NODES; n++) {
            if (nodeIsThere[n]) {
                count++;
            }
        }
        return count;
    }

    private void carryOut(int task) {
        Task t = graph.tasks[task];
        for (int i = 0; i < plan.count; i++) {
            int from = plan.channels[i];
            if (graph.hasChannel(from)) {
                graph.channels[from].takeOne();
            }
            boolean works = !t.isAside(t.place);
            t.place++;
            if (works) {
                work(task, plan.values[i]);
            }
        }
    }

    private void work(int task, int x) {
        Task t = graph.tasks[task];
        switch (t.sort) {
            case SINK:
                t.putOut(x);
                break;
            case TOTAL:
                t.sum += x;
                graph.give(task, t.sum);
                break;
            case DRAW:
                drawn = drawn * 16807L % 2147483647L;
                graph.give(task, x + (int) (drawn % 10L));
                break;
            case ADD:
                graph.give(task, x + t.a);
                break;
            default:
                if (t.givesFor(x)) {
                    graph.give(task, x);
                }
        }
    }

    private int failAlone(int task, int kind) {
        int mostFails = blameAll(1 << task, kind);
        return ended ? 0 : beginAgain(1 << task, mostFails);
    }

    /** Puts down all the causes even when the first one ends the job: the tasks fail as one. */
    private int blameAll(int failing, int kind) {
        int mostFails = 0;
        for (int t = 0; t < graph.taskCount; t++) {
            if (isIn(failing, t)) {
                causes.putDown(t, time, kind);
                graph.tasks[t].fails++;
                mostFails = Math.max(mostFails, graph.tasks[t].fails);
            }
        }
        if (mostFails > bound) {
            ended = true;
        }
        return mostFails;
    }

    private int beginAgain(int failing, int mostFails) {
        int region = graph.regionOf(failing);
        graph.rewind(region, time + waitAfter(mostFails));
        int count = Integer.bitCount(region);
        beginnings += count;
        return count;
    }

    private static int waitAfter(int fails) {
        // Beyond five fails the power is above the most, and is never worked out.
        return fails < 1 || fails > 5 ? MOST_WAIT : Math.min(MOST_WAIT, 1 << (fails - 1));
    }

    private void moveAway(int leaving) {
        for (int t = 0; t < graph.taskCount; t++) {
            if (isIn(leaving, t)) {
                graph.tasks[t].node = emptiestNode(graph.tasks[t].node);
            }
        }
    }

    private int emptiestNode(int otherwise) {
        int best = otherwise;
        int fewest = MOST_TASKS + 1;
        for (int n = 0; n < MOST_NODES; n++) {
            int count = Integer.bitCount(graph.tasksOn(n));
            if (nodeIsThere[n] && count < fewest) {
                best = n;
                fewest = count;
            }
        }
        return best;
    }

    private static final class Task {
        final int[] outRows = new int[MOST_OUT];
        final int[] asideNumbers = new int[MOST_ASIDE];
        int sort;
        int a;
        int node;
        /** The tasks that channels to this one come from. */
        int givers;
        int poisonValue;
        int width;
        int fails;
        int waitsTill;
        int asideCount;
        int place;
        int sum;
        int outCount;
        int markPlace;
        int markSum;
        int markOutCount;

        void set(int sort, int a, int node) {
            this.sort = sort;
            this.a = a;
            this.node = node;
            givers = 0;
            poisonValue = NO_POISON;
            width = FULL_WIDTH;
            fails = 0;
            waitsTill = 0;
            asideCount = 0;
            place = 0;
            sum = 0;
            outCount = 0;
            keepAsMark();
        }

        /** OUT only grows behind the mark, so that its length tells all of it. */
        void keepAsMark() {
            markPlace = place;
            markSum = sum;
            markOutCount = outCount;
        }

        void rewind(int till) {
            place = markPlace;
            sum = markSum;
            outCount = markOutCount;
            waitsTill = Math.max(waitsTill, till);
        }

        int waitsStill(int time) {
            return Math.max(0, waitsTill - time);
        }

        boolean isAside(int number) {
            for (int i = 0; i < asideCount; i++) {
                if (asideNumbers[i] == number) {
                    return true;
                }
            }
            return false;
        }

        boolean throwsAt(int number, int x) {
            return poisonValue != NO_POISON && x == poisonValue && !isAside(number);
        }

        boolean givesFor(int x) {
            return sort != ONLY || a > 0 && x % a == 0;
        }

        /** With a width of 1 the row that threw is the next one, so that its number is the place. */
        void narrowAfterThrow(boolean setsAside) {
            if (width > 1) {
                width = width / 2;
            } else if (setsAside && asideCount < MOST_ASIDE) {
                asideNumbers[asideCount] = place;
                asideCount++;
                width = FULL_WIDTH;
            }
        }

        void putOut(int x) {
            if (outCount < MOST_OUT) {
                outRows[outCount] = x;
                outCount++;
            }
        }
    }

    /**
     * The rows of a channel stand by their numbers. Those below held are there; the task may have
     * given fewer again so far, and the taker may have taken more of them than are there now.
     */
    private static final class Channel {
        final int[] rows = new int[MOST_GIVEN];
        int from;
        int to;
        boolean isKept;
        int held;
        int given;
        int taken;
        int seen;
        int lost;
        int markHeld;
        int markGiven;
        int markTaken;

        void set(int from, int to, boolean kept) {
            this.from = from;
            this.to = to;
            isKept = kept;
            held = 0;
            given = 0;
            taken = 0;
            seen = 0;
            keepAsMark();
        }

        void keepAsMark() {
            markHeld = held;
            markGiven = given;
            markTaken = taken;
            lost = 0;
        }

        boolean isOverAt(int position, int done) {
            return isIn(done, from) && position >= given;
        }

        void takeOne() {
            taken++;
            seen = Math.max(seen, taken);
        }

        void put(int x) {
            if (given >= MOST_GIVEN) {
                return;
            }
            // A row that is there still is the one that is given again.
            if (given == held) {
                rows[held] = x;
                held++;
            }
            given++;
        }

        void loseBehindMark() {
            lost = held - markHeld;
        }

        /** Rows up to here stay as they were, or were used for good, whatever is given again. */
        int settled() {
            return Math.max(markHeld, markTaken);
        }

        void rewindGiver(boolean unsteady) {
            given = markGiven;
            if (unsteady) {
                seen = Math.min(seen, settled());
            }
            if (!isKept || unsteady || lost > 0) {
                held = markHeld;
                lost = 0;
            }
        }

        void rewindTaker() {
            taken = markTaken;
        }
    }

    /** Tasks and channels. Channels go to greater numbers, so one way upwards meets givers first. */
    private static final class Graph {
        final Task[] tasks = new Task[MOST_TASKS];
        final Channel[] channels = new Channel[MOST_CHANNELS];
        int taskCount;
        int channelCount;

        Graph() {
            for (int t = 0; t < MOST_TASKS; t++) {
                tasks[t] = new Task();
            }
            for (int c = 0; c < MOST_CHANNELS; c++) {
                channels[c] = new Channel();
            }
        }

        boolean hasTask(int task) {
            return task >= 0 && task < taskCount;
        }

        boolean hasChannel(int channel) {
            return channel >= 0 && channel < channelCount;
        }

        int addTask(int sort, int a, int node) {
            tasks[taskCount].set(sort, a, node);
            taskCount++;
            return taskCount - 1;
        }

        int addChannel(int from, int to, boolean kept) {
            channels[channelCount].set(from, to, kept);
            tasks[to].givers |= 1 << from;
            channelCount++;
            return channelCount - 1;
        }

        int tasksOn(int node) {
            int set = 0;
            for (int t = 0; t < taskCount; t++) {
                if (tasks[t].node == node) {
                    set |= 1 << t;
                }
            }
            return set;
        }

        int countWaiting(int time) {
            int count = 0;
            for (int t = 0; t < taskCount; t++) {
                if (tasks[t].waitsStill(time) > 0) {
                    count++;
                }
            }
            return count;
        }

        int doneTasks() {
            int done = 0;
            for (int t = 0; t < taskCount; t++) {
                if (isDone(t, done)) {
                    done |= 1 << t;
                }
            }
            return done;
        }

        private boolean isDone(int task, int doneBelow) {
            if (tasks[task].sort == SOURCE) {
                return tasks[task].place >= tasks[task].a;
            }
            for (int c = 0; c < channelCount; c++) {
                Channel channel = channels[c];
                if (channel.to == task && !channel.isOverAt(channel.taken, doneBelow)) {
                    return false;
                }
            }
            return true;
        }

        /** How many rows a task may still give, or a sink put out. */
        int roomOf(int task) {
            if (tasks[task].sort == SINK) {
                return MOST_OUT - tasks[task].outCount;
            }
            int room = MOST_GIVEN;
            for (int c = 0; c < channelCount; c++) {
                if (channels[c].from == task) {
                    room = Math.min(room, MOST_GIVEN - channels[c].given);
                }
            }
            return room;
        }

        void give(int task, int x) {
            for (int c = 0; c < channelCount; c++) {
                if (channels[c].from == task) {
                    channels[c].put(x);
                }
            }
        }

        void loseAllFrom(int givers) {
            for (int c = 0; c < channelCount; c++) {
                if (channels[c].isKept && isIn(givers, channels[c].from)) {
                    channels[c].loseBehindMark();
                }
            }
        }

        void keepAsMark() {
            for (int t = 0; t < taskCount; t++) {
                tasks[t].keepAsMark();
            }
            for (int c = 0; c < channelCount; c++) {
                channels[c].keepAsMark();
            }
        }

        int regionOf(int failing) {
            int region = failing;
            // Each round but the last one adds a task.
            for (int round = 0; round < MOST_TASKS; round++) {
                int wider = widened(region);
                if (wider == region) {
                    return region;
                }
                region = wider;
            }
            return region;
        }

        private int widened(int region) {
            int unsteady = unsteadyIn(region);
            int wider = region;
            for (int c = 0; c < channelCount; c++) {
                Channel channel = channels[c];
                boolean spoilsTaker = isIn(unsteady, channel.from) && channel.seen > channel.settled();
                if (isIn(region, channel.from) && (!channel.isKept || spoilsTaker)) {
                    wider |= 1 << channel.to;
                }
                if (isIn(region, channel.to) && (!channel.isKept || channel.lost > 0)) {
                    wider |= 1 << channel.from;
                }
            }
            return wider;
        }

        private int unsteadyIn(int region) {
            int unsteady = 0;
            for (int t = 0; t < taskCount; t++) {
                if (isIn(region, t) && (tasks[t].sort == DRAW || (tasks[t].givers & unsteady) != 0)) {
                    unsteady |= 1 << t;
                }
            }
            return unsteady;
        }

        void rewind(int region, int till) {
            int unsteady = unsteadyIn(region);
            for (int t = 0; t < taskCount; t++) {
                if (isIn(region, t)) {
                    tasks[t].rewind(till);
                }
            }
            for (int c = 0; c < channelCount; c++) {
                Channel channel = channels[c];
                if (isIn(region, channel.to)) {
                    channel.rewindTaker();
                }
                if (isIn(region, channel.from)) {
                    channel.rewindGiver(isIn(unsteady, channel.from));
                }
            }
        }
    }

    /** What a step would take, found ahead of doing any of it: a step that throws does nothing. */
    private static final class Plan {
        final int[] values = new int[FULL_WIDTH];
        /** The channel of each row; of a source's rows NONE. */
        final int[] channels = new int[FULL_WIDTH];
        int count;
        boolean throwsInstead;
        private int room;

        void fill(Graph graph, int task) {
            count = 0;
            throwsInstead = false;
            room = graph.roomOf(task);
            if (graph.tasks[task].sort == SOURCE) {
                fillFromSource(graph.tasks[task], task);
            } else {
                fillFromChannels(graph, task);
            }
        }

        private void fillFromSource(Task source, int task) {
            for (int k = source.place; k < source.a && takesMore(source); k++) {
                add(source, NONE, (5 * task + 3 * k) % 20);
            }
        }

        private void fillFromChannels(Graph graph, int task) {
            Task taker = graph.tasks[task];
            int done = graph.doneTasks();
            for (int c = 0; c < graph.channelCount; c++) {
                Channel channel = graph.channels[c];
                if (channel.to == task) {
                    int k = channel.taken;
                    // A task that is done may have given fewer than are there; those beyond stay.
                    while (k < channel.held && !channel.isOverAt(k, done) && takesMore(taker)) {
                        add(taker, c, channel.rows[k]);
                        k++;
                    }
                    if (!channel.isOverAt(k, done)) {
                        return;
                    }
                }
            }
        }

        private boolean takesMore(Task taker) {
            return !throwsInstead && count < taker.width && count < FULL_WIDTH && room > 0;
        }

        private void add(Task taker, int channel, int x) {
            int number = taker.place + count;
            if (taker.throwsAt(number, x)) {
                throwsInstead = true;
                return;
            }
            if (!taker.isAside(number) && taker.givesFor(x)) {
                room--;
            }
            values[count] = x;
            channels[count] = channel;
            count++;
        }
    }

    private static final class Causes {
        final int[] tasks = new int[MOST_CAUSES];
        final int[] times = new int[MOST_CAUSES];
        final int[] kinds = new int[MOST_CAUSES];
        int count;

        void putDown(int task, int time, int kind) {
            if (count < MOST_CAUSES) {
                tasks[count] = task;
                times[count] = time;
                kinds[count] = kind;
                count++;
            }
        }
    }
}
