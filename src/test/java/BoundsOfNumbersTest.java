import java.util.LinkedHashMap;
import java.util.Map;
import java.util.function.ToIntBiFunction;

/** The head of "Terms": how many tasks, channels and nodes; which refusal comes first. */
public final class BoundsOfNumbersTest {
    private static final int UNKNOWN = -1, OUTSIDE = -2, STATE = -3, ROOM = -4, NONE = -9;
    private static final Check CHECK = new Check();
    private static final Map<String, ToIntBiFunction<RegionRestarts, Integer>> OF_TASKS = new LinkedHashMap<>();
    private static final Map<String, ToIntBiFunction<RegionRestarts, Integer>> OF_CHANNELS = new LinkedHashMap<>();

    static {
        OF_TASKS.put("channel from", (x, t) -> x.channel(t, 0, true));
        OF_TASKS.put("channel to", (x, t) -> x.channel(0, t, true));
        OF_TASKS.put("poison", (x, t) -> x.poison(t, 7));
        OF_TASKS.put("region", (x, t) -> x.region(t));
        OF_TASKS.put("taskAt", (x, t) -> x.taskAt(t, 0));
        OF_TASKS.put("out", (x, t) -> x.out(t, 0));
        OF_TASKS.put("aside", (x, t) -> x.aside(t, 0));
        OF_TASKS.put("step", (x, t) -> x.step(t));
        OF_TASKS.put("fail", (x, t) -> x.fail(t));
        OF_CHANNELS.put("channelAt", (x, c) -> x.channelAt(c, 0));
        OF_CHANNELS.put("row", (x, c) -> x.row(c, 0));
        OF_CHANNELS.put("lose", (x, c) -> x.lose(c));
    }

    public static void main(String[] args) {
        for (int count : new int[] {0, 1, 2, 15, 16}) {
            tasksThatThereAreNot(count);
            tasksThatThereAre(count);
        }
        for (int count : new int[] {0, 1, 2, 39, 40}) {
            channelsThatThereAreNot(count);
            channelsThatThereAre(count);
        }
        nodesThatThereAreNot();
        nodesThatThereAre();
        roomForTasks();
        roomForChannels();
        orderOfTask();
        orderOfChannel();
        orderOfPoison();
        orderAfterTheEnd();
        orderOfLooks();
        CHECK.end();
    }

    private static RegionRestarts tasks(int count) {
        RegionRestarts x = new RegionRestarts();
        for (int t = 0; t < count; t++) {
            x.task(t == 0 ? Jobs.SOURCE : Jobs.ADD, 3, t % 4);
        }
        return x;
    }

    private static RegionRestarts channels(int count) {
        RegionRestarts x = tasks(3);
        for (int c = 0; c < count; c++) {
            x.channel(c % 2, c % 2 + 1, c % 3 > 0);
        }
        return x;
    }

    /** One beyond each side, and numbers that come to one that there is if a shift or a mask cuts them. */
    private static int[] missing(int count) {
        return new int[] {Integer.MIN_VALUE, -32, -16, -1, count, 40, 64, 65536, 1 << 30, Integer.MAX_VALUE};
    }

    /** "UNKNOWN -1 (a task .. that there is not)": in every call that names a task. */
    private static void tasksThatThereAreNot(int count) {
        Twins twins = new Twins(CHECK, count + " tasks", () -> tasks(count));
        for (String name : OF_TASKS.keySet()) {
            for (int t : missing(count)) {
                twins.refused(name + " " + t, UNKNOWN, x -> OF_TASKS.get(name).applyAsInt(x, t));
            }
        }
        twins.endAtOnce();
    }

    private static void tasksThatThereAre(int count) {
        RegionRestarts x = tasks(count);
        for (String name : OF_TASKS.keySet()) {
            for (int t = 0; t < count; t++) {
                int answer = OF_TASKS.get(name).applyAsInt(x, t);
                CHECK.yes(name + " " + t + " of " + count + ": " + answer, answer != UNKNOWN);
            }
        }
    }

    /** "UNKNOWN -1 (a .. channel .. that there is not)": in every call that names a channel. */
    private static void channelsThatThereAreNot(int count) {
        Twins twins = new Twins(CHECK, count + " channels", () -> channels(count));
        for (String name : OF_CHANNELS.keySet()) {
            for (int c : missing(count)) {
                twins.refused(name + " " + c, UNKNOWN, x -> OF_CHANNELS.get(name).applyAsInt(x, c));
            }
        }
        twins.endAtOnce();
    }

    private static void channelsThatThereAre(int count) {
        RegionRestarts x = channels(count);
        for (String name : OF_CHANNELS.keySet()) {
            for (int c = 0; c < count; c++) {
                int answer = OF_CHANNELS.get(name).applyAsInt(x, c);
                CHECK.yes(name + " " + c + " of " + count + ": " + answer, answer != UNKNOWN);
            }
        }
    }

    /** "UNKNOWN -1 (a .. node that there is not)", "NODES 0 to 3". */
    private static void nodesThatThereAreNot() {
        Twins twins = new Twins(CHECK, "nodes", () -> Jobs.chain(true, 5, Jobs.SOURCE, Jobs.SINK));
        for (int n : missing(4)) {
            twins.refused("task on " + n, UNKNOWN, x -> x.task(5, 0, n));
            twins.refused("gone " + n, UNKNOWN, x -> x.gone(n));
        }
        twins.end();
    }

    private static void nodesThatThereAre() {
        for (int n = 0; n < 4; n++) {
            RegionRestarts x = new RegionRestarts();
            CHECK.due("task on " + n, x.task(5, 0, n), 0);
            CHECK.due("it is there", x.taskAt(0, 1), n);
            CHECK.due("gone " + n, x.gone(n), 1);
            CHECK.due("its task goes to the first other one", x.taskAt(0, 1), n == 0 ? 1 : 0);
        }
    }

    /** "TASKS 0 to 15": the sixteenth is taken, a seventeenth is ROOM. */
    private static void roomForTasks() {
        RegionRestarts x = tasks(14);
        CHECK.due("the fifteenth", x.task(3, 0, 1), 14);
        CHECK.due("the sixteenth", x.task(5, 0, 3), 15);
        CHECK.due("tasks", x.told(0), 16);
        CHECK.due("it has its sort", x.taskAt(15, 0), 5);
        CHECK.due("it has its node", x.taskAt(15, 1), 3);
        CHECK.due("a channel to it", x.channel(14, 15, false), 0);
        CHECK.due("it is bit 15", x.region(15), 1 << 15 | 1 << 14);
        Twins twins = new Twins(CHECK, "16 tasks", () -> tasks(16));
        for (int sort = 0; sort <= 5; sort++) {
            int one = sort;
            twins.refused("a seventeenth of sort " + sort, ROOM, y -> y.task(one, 3, 0));
        }
        twins.endAtOnce();
    }

    /** "CHANNELS 0 to 39": the fortieth is taken, one more is ROOM. */
    private static void roomForChannels() {
        RegionRestarts x = channels(38);
        CHECK.due("the thirty-ninth", x.channel(0, 1, false), 38);
        CHECK.due("the fortieth", x.channel(1, 2, true), 39);
        CHECK.due("channels", x.told(1), 40);
        CHECK.due("it has its from", x.channelAt(39, 0), 1);
        CHECK.due("it has its to", x.channelAt(39, 1), 2);
        CHECK.due("it is kept", x.channelAt(39, 2), 1);
        x.step(0);
        x.step(1);
        CHECK.due("rows come to it", x.channelAt(39, 3), 8);
        Twins twins = new Twins(CHECK, "40 channels", () -> channels(40));
        twins.refused("one more, kept", ROOM, y -> y.channel(0, 1, true));
        twins.refused("one more, direct", ROOM, y -> y.channel(1, 2, false));
        twins.endAtOnce();
    }

    private static RegionRestarts fullAndStepped() {
        RegionRestarts x = tasks(15);
        x.task(5, 0, 0);
        for (int c = 0; c < 40; c++) {
            x.channel(0, 1, true);
        }
        x.step(1);
        return x;
    }

    /** "Calls answer, the first of these that fits": of task all four can fit at once. */
    private static void orderOfTask() {
        Twins full = new Twins(CHECK, "16 tasks", () -> tasks(16));
        full.refused("node and sort", UNKNOWN, x -> x.task(6, 0, 4));
        full.refused("node and room", UNKNOWN, x -> x.task(5, 0, 4));
        full.refused("sort and room", OUTSIDE, x -> x.task(6, 0, 0));
        full.refused("a and room", OUTSIDE, x -> x.task(0, 21, 0));
        full.endAtOnce();
        Twins both = new Twins(CHECK, "16 tasks, a step", BoundsOfNumbersTest::fullAndStepped);
        both.refused("all", UNKNOWN, x -> x.task(6, 0, -1));
        both.refused("a, state, room", OUTSIDE, x -> x.task(2, 0, 0));
        both.refused("state and room", STATE, x -> x.task(2, 1, 0));
        both.endAtOnce();
    }

    private static void orderOfChannel() {
        Twins full = new Twins(CHECK, "40 channels", () -> channels(40));
        full.refused("unknown and room", UNKNOWN, x -> x.channel(0, 3, true));
        full.refused("unknown from, to a source", UNKNOWN, x -> x.channel(3, 0, true));
        full.refused("outside and room", OUTSIDE, x -> x.channel(2, 1, true));
        full.endAtOnce();
        Twins both = new Twins(CHECK, "40 channels, a step", BoundsOfNumbersTest::fullAndStepped);
        both.refused("all", UNKNOWN, x -> x.channel(15, 16, true));
        both.refused("from a sink, itself, state, room", OUTSIDE, x -> x.channel(15, 15, true));
        both.refused("state and room", STATE, x -> x.channel(0, 1, true));
        both.endAtOnce();
    }

    private static void orderOfPoison() {
        Twins twins = new Twins(CHECK, "a step", () -> {
            RegionRestarts x = Jobs.chain(true, 5, Jobs.SOURCE, Jobs.SINK);
            x.step(1);
            return x;
        });
        twins.refused("all", UNKNOWN, x -> x.poison(2, 1001));
        twins.refused("unknown and state", UNKNOWN, x -> x.poison(-1, 0));
        twins.refused("outside and state", OUTSIDE, x -> x.poison(0, -1001));
        twins.refused("state", STATE, x -> x.poison(0, 0));
        twins.end();
    }

    static RegionRestarts ended() {
        RegionRestarts x = Jobs.chain(true, 5, Jobs.SOURCE, Jobs.ADD, Jobs.SINK);
        x.channel(1, 2, false);
        x.gone(3);
        x.step(0);
        x.step(1);
        for (int i = 0; i < 4; i++) {
            x.fail(0);
        }
        return x;
    }

    /** UNKNOWN comes ahead of the STATE that the job has ENDED. */
    private static void orderAfterTheEnd() {
        Twins twins = new Twins(CHECK, "after the end", BoundsOfNumbersTest::ended);
        for (int number : new int[] {-1, 4}) {
            twins.refused("step " + number, UNKNOWN, x -> x.step(number));
            twins.refused("fail " + number, UNKNOWN, x -> x.fail(number));
            twins.refused("gone " + number, UNKNOWN, x -> x.gone(number));
            twins.refused("lose " + number, UNKNOWN, x -> x.lose(number));
            twins.refused("region " + number, UNKNOWN, x -> x.region(number));
        }
        twins.end();
    }

    /** UNKNOWN ahead of OUTSIDE and of NONE, and OUTSIDE ahead of NONE. */
    private static void orderOfLooks() {
        Twins twins = new Twins(CHECK, "looks", BoundsOfNumbersTest::ended);
        twins.refused("taskAt", UNKNOWN, x -> x.taskAt(3, 10));
        twins.refused("taskAt", UNKNOWN, x -> x.taskAt(-1, -1));
        twins.refused("channelAt", UNKNOWN, x -> x.channelAt(3, 9));
        twins.refused("channelAt", UNKNOWN, x -> x.channelAt(-1, -1));
        twins.refused("row", UNKNOWN, x -> x.row(3, -1));
        twins.refused("out", UNKNOWN, x -> x.out(3, -1));
        twins.refused("aside", UNKNOWN, x -> x.aside(3, -1));
        twins.refused("cause", OUTSIDE, x -> x.cause(-1, 3));
        twins.refused("cause", OUTSIDE, x -> x.cause(64, -1));
        twins.refused("cause", NONE, x -> x.cause(64, 2));
        twins.end();
    }
}
