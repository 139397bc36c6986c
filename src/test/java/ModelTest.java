/**
 * Random jobs on the program and on the document's words made plain (Model.java): each call must be
 * answered the same by both, and so must all that can be asked of them, now and then and at the end.
 */
public final class ModelTest {
    private static final int JOBS = 800;
    private static final int[] ODD = {Integer.MIN_VALUE, -1, 16, 40, 101, 1001, Integer.MAX_VALUE};
    private static final String[] NAMES = {"task", "channel", "poison", "rule", "step", "fail", "gone",
        "lose", "tick", "mark", "region", "taskAt", "channelAt", "row", "out", "aside", "cause", "told", "clear"};
    private static final int TASK = 0, CHANNEL = 1, POISON = 2, RULE = 3, STEP = 4, FAIL = 5, GONE = 6,
            LOSE = 7, TICK = 8, MARK = 9, REGION = 10, TASK_AT = 11, CHANNEL_AT = 12, ROW = 13, OUT = 14,
            ASIDE = 15, CAUSE = 16, TOLD = 17, CLEAR = 18;
    /** Kinds of jobs that are led towards rare states; those of other kinds are just random. */
    private static final int FULL = 0, DRAWN_AHEAD = 1, MANY_FAILS = 2, WIDE_SINK = 3;
    private static final Check CHECK = new Check();

    private static long state;
    private static RegionRestarts program;
    private static Model model;
    private static StringBuilder calls;
    private static boolean differs;
    /** States that the jobs must come to, for the comparison to be worth something. */
    private static final String[] RARE = {"the job has ended", "a row is aside", "two rows are aside",
        "more was taken than is there", "a channel is over ahead of its rows' end", "rows are lost",
        "a channel has 64 rows", "an out has 200 rows", "64 causes", "one node is left",
        "a region grew by rows that were seen", "a mark while rows are to be given again"};
    private static final int[] SEEN = new int[RARE.length];

    /** Arguments: how many jobs, and which one first. */
    public static void main(String[] args) {
        int jobs = args.length > 0 ? Integer.parseInt(args[0]) : JOBS;
        int first = args.length > 1 ? Integer.parseInt(args[1]) : 0;
        for (int job = first; job < first + jobs; job++) {
            state = job;
            below(2);
            program = new RegionRestarts();
            model = new Model();
            calls = new StringBuilder();
            differs = false;
            runJob(job);
        }
        for (int i = 0; i < RARE.length; i++) {
            CHECK.yes("in no job: " + RARE[i], SEEN[i] > 0);
        }
        CHECK.end();
    }

    private static int below(int n) {
        state = state * 6364136223846793005L + 1442695040888963407L;
        return (int) ((state >>> 33) % n);
    }

    private static boolean one(int in) {
        return below(in) == 0;
    }

    private static void runJob(int job) {
        runPart(job % 8);
        if (one(3)) {
            call(CLEAR, 0, 0, 0);
            lookAtAll();
            runPart(below(8));
        }
    }

    private static void runPart(int kind) {
        int rough = 2 + below(40);
        if (kind == DRAWN_AHEAD) {
            setUpDrawnAhead();
            leadDrawnAhead();
        } else if (kind == WIDE_SINK) {
            setUpWideSink();
        } else {
            setUp(kind);
        }
        int length = kind == FULL || kind == WIDE_SINK ? 300 : 20 + below(160);
        for (int i = 0; i < length && !differs; i++) {
            if (kind == MANY_FAILS && one(2)) {
                call(FAIL, i / 2 % tasks(), 0, 0);
            } else if (one(rough)) {
                trouble();
            } else {
                work();
            }
            if (one(16)) {
                lookAtAll();
            }
        }
        lookAtAll();
    }

    private static int tasks() {
        return program.told(0);
    }

    private static void setUp(int kind) {
        boolean large = kind == FULL || kind == MANY_FAILS;
        int tasks = large ? 16 : 1 + below(10);
        for (int t = 0; t < tasks; t++) {
            int sort = t == 0 && !one(8) ? 0 : below(6);
            sort = large && t > 3 && sort == 0 ? 5 : sort;
            int a = sort == 0 ? large ? 20 : below(21) : sort == 1 ? below(41) - 20 : 1 + below(5);
            call(TASK, sort, a, below(4));
        }
        int channels = large ? 38 : below(3) + tasks + below(4);
        int direct = 1 + below(5);
        for (int c = 0; c < channels && tasks > 1; c++) {
            int from = large ? below(6) : below(tasks - 1);
            call(CHANNEL, from, from + 1 + below(Math.min(large ? 10 : 4, tasks - from - 1)), below(direct));
        }
        int poisons = large ? below(2) : below(3);
        for (int p = 0; p < poisons; p++) {
            call(POISON, below(tasks), below(20), 0);
        }
        call(RULE, large || one(2) ? 9 : 1 + below(9), one(3) ? 0 : 1, 0);
        if (one(10)) {
            trouble();
        }
    }

    /** Drawn rows of which none may come at first, ahead of rows of which one throws. */
    private static void setUpDrawnAhead() {
        call(TASK, 0, 1 + below(3), below(4));
        call(TASK, 4, 0, below(4));
        call(TASK, 2, 2 + below(4), below(4));
        call(TASK, 0, 1 + below(3), below(4));
        call(TASK, 1, below(3), below(4));
        call(TASK, 1 + below(5), 1, below(4));
        call(CHANNEL, 0, 1, 1);
        call(CHANNEL, 1, 2, below(2));
        call(CHANNEL, 2, 4, 1);
        call(CHANNEL, 3, 4, 1);
        call(CHANNEL, 4, 5, 1);
        call(POISON, 4, (15 + 3 * below(3)) % 20, 0);
        call(RULE, 9, 1, 0);
    }

    /** The drawn rows are drawn anew when the rows behind them were used, and these are used anew. */
    private static void leadDrawnAhead() {
        for (int again : new int[] {1, 4, below(6)}) {
            for (int i = 0; i < 12; i++) {
                call(TICK, 16, 0, 0);
                stepEach();
            }
            lookAtAll();
            call(FAIL, again, 0, 0);
        }
    }

    /** More rows than the sink can put out. */
    private static void setUpWideSink() {
        call(TASK, 0, 20, below(4));
        call(TASK, 0, 18 + below(3), below(4));
        call(TASK, 5, 0, below(4));
        for (int c = 0; c < 12; c++) {
            call(CHANNEL, below(2), 2, below(4));
        }
        call(RULE, 9, 1, 0);
    }

    private static void stepEach() {
        int but = below(2 * tasks());
        for (int t = 0; t < tasks(); t++) {
            if (t != but) {
                call(STEP, t, 0, 0);
            }
        }
    }

    private static void work() {
        int kind = below(12);
        if (kind < 8) {
            call(STEP, below(tasks()), 0, 0);
        } else if (kind < 9) {
            stepEach();
        } else {
            call(TICK, 1 + below(one(2) ? 3 : 40), 0, 0);
        }
    }

    private static void trouble() {
        int kind = below(16);
        if (kind < 5) {
            call(FAIL, below(tasks()), 0, 0);
        } else if (kind < 9) {
            call(LOSE, below(Math.max(1, program.told(1))), 0, 0);
        } else if (kind < 12) {
            call(TICK, 20, 0, 0);
            call(MARK, 0, 0, 0);
        } else if (kind < 13) {
            call(GONE, below(4), 0, 0);
        } else if (kind < 14) {
            call(RULE, 1 + below(9), below(2), 0);
        } else {
            call(below(CLEAR), argument(), argument(), argument());
        }
    }

    private static int argument() {
        return one(3) ? ODD[below(ODD.length)] : below(9);
    }

    private static void call(int method, int a, int b, int c) {
        if (differs) {
            return;
        }
        calls.append(NAMES[method]).append('(').append(a).append(", ").append(b).append(", ");
        calls.append(c).append(")\n");
        if (method == FAIL && a >= 0 && a < tasks()) {
            noteRegion(program.region(a));
        }
        compare(method, a, b, c);
        noteRare();
    }

    private static void compare(int method, int a, int b, int c) {
        int got = ask(program, method, a, b, c);
        int want = ask(model, method, a, b, c);
        differs = got != want;
        String text = differs ? calls + "then " + NAMES[method] + "(" + a + ", " + b + ", " + c + ")" : "";
        CHECK.due(text, got, want);
    }

    private static void lookAtAll() {
        lookAtEach(TOLD, 0, 0, 10);
        for (int t = 0; t < tasks(); t++) {
            look(REGION, t, 0);
            for (int what = -1; what <= 10; what++) {
                look(TASK_AT, t, what);
            }
            lookAtEach(OUT, t, -1, program.taskAt(t, 8));
            lookAtEach(ASIDE, t, -1, program.taskAt(t, 9));
        }
        for (int c = 0; c < program.told(1); c++) {
            lookAtEach(CHANNEL_AT, c, -1, 9);
            lookAtEach(ROW, c, -1, program.channelAt(c, 3));
        }
        for (int k = 0; k <= program.told(5); k++) {
            lookAtEach(CAUSE, k, -1, 3);
        }
    }

    private static void lookAtEach(int method, int a, int first, int last) {
        for (int b = first; b <= last; b++) {
            look(method, method == TOLD ? b : a, b);
        }
    }

    private static void look(int method, int a, int b) {
        if (!differs) {
            compare(method, a, b, 0);
        }
    }

    private static void noteRegion(int region) {
        for (int c = 0; c < program.told(1); c++) {
            boolean both = (region >> program.channelAt(c, 0) & region >> program.channelAt(c, 1) & 1) == 1;
            if (both && program.channelAt(c, 2) == 1 && program.channelAt(c, 6) == 0) {
                SEEN[10]++;
            }
        }
    }

    private static void noteRare() {
        note(0, program.told(6) == 1);
        note(8, program.told(5) == 64);
        note(9, program.told(9) == 1);
        for (int t = 0; t < tasks(); t++) {
            note(1, program.taskAt(t, 9) == 1);
            note(2, program.taskAt(t, 9) == 2);
            note(7, program.taskAt(t, 8) == 200);
        }
        for (int c = 0; c < program.told(1); c++) {
            int rows = program.channelAt(c, 3);
            int given = program.channelAt(c, 4);
            note(3, program.channelAt(c, 5) > rows);
            note(4, program.channelAt(c, 7) == 1 && given < rows);
            note(5, program.channelAt(c, 6) > 0);
            note(6, rows == 64);
            note(11, program.told(7) == 0 && program.told(4) > 0 && given < rows);
        }
    }

    private static void note(int rare, boolean holds) {
        SEEN[rare] += holds ? 1 : 0;
    }

    private static int ask(RegionRestarts x, int method, int a, int b, int c) {
        switch (method) {
            case TASK: return x.task(a, b, c);
            case CHANNEL: return x.channel(a, b, c != 0);
            case POISON: return x.poison(a, b);
            case RULE: return x.rule(a, b != 0);
            case STEP: return x.step(a);
            case FAIL: return x.fail(a);
            case GONE: return x.gone(a);
            case LOSE: return x.lose(a);
            case TICK: return x.tick(a);
            case MARK: return x.mark();
            case REGION: return x.region(a);
            case TASK_AT: return x.taskAt(a, b);
            case CHANNEL_AT: return x.channelAt(a, b);
            case ROW: return x.row(a, b);
            case OUT: return x.out(a, b);
            case ASIDE: return x.aside(a, b);
            case CAUSE: return x.cause(a, b);
            case TOLD: return x.told(a);
            default: return x.clear();
        }
    }

    private static int ask(Model x, int method, int a, int b, int c) {
        switch (method) {
            case TASK: return x.task(a, b, c);
            case CHANNEL: return x.channel(a, b, c != 0);
            case POISON: return x.poison(a, b);
            case RULE: return x.rule(a, b != 0);
            case STEP: return x.step(a);
            case FAIL: return x.fail(a);
            case GONE: return x.gone(a);
            case LOSE: return x.lose(a);
            case TICK: return x.tick(a);
            case MARK: return x.mark();
            case REGION: return x.region(a);
            case TASK_AT: return x.taskAt(a, b);
            case CHANNEL_AT: return x.channelAt(a, b);
            case ROW: return x.row(a, b);
            case OUT: return x.out(a, b);
            case ASIDE: return x.aside(a, b);
            case CAUSE: return x.cause(a, b);
            case TOLD: return x.told(a);
            default: return x.clear();
        }
    }
}
