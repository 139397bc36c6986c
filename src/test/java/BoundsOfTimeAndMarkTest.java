/** Promises 10, 11 and 20: where TIME ends, when no mark can be set, and what is cleared. */
public final class BoundsOfTimeAndMarkTest {
    private static final int OUTSIDE = -2, STATE = -3, ROOM = -4, THREW = -5, NONE = -9;
    private static final int LEAST = Integer.MIN_VALUE, MOST = Integer.MAX_VALUE;
    private static final Check CHECK = new Check();

    public static void main(String[] args) {
        ticks();
        ticksOutside();
        ticksAfterTheEnd();
        theMostTime();
        markOfNothing();
        marksAreCounted();
        markOfAFullObject();
        markWhileATaskWaits();
        markAfterTheEnd();
        refusedMarkMovesNothing();
        clearOfNothing();
        clearOfAFullObject();
        clearOpensEverything();
        clearSetsNothingAside();
        CHECK.end();
    }

    /** "TIME goes on (1 to 100 ..): what it is." */
    private static void ticks() {
        for (int n : new int[] {1, 2, 99, 100}) {
            RegionRestarts x = new RegionRestarts();
            CHECK.due("tick " + n, x.tick(n), n);
            CHECK.due("and again", x.tick(n), 2 * n);
            CHECK.due("time", x.told(3), 2 * n);
        }
    }

    /** "OUTSIDE." */
    private static void ticksOutside() {
        Twins twins = new Twins(CHECK, "tick", () -> {
            RegionRestarts x = Jobs.chain(true, 5, Jobs.SOURCE, Jobs.SINK);
            x.tick(7);
            x.fail(0);
            return x;
        });
        for (int n : new int[] {LEAST, -100, -1, 0, 101, 102, 1000000, MOST}) {
            twins.refused("by " + n, OUTSIDE, x -> x.tick(n));
        }
        twins.end();
    }

    private static void ticksAfterTheEnd() {
        RegionRestarts x = BoundsOfNumbersTest.ended();
        CHECK.due("0", x.tick(0), OUTSIDE);
        CHECK.due("100", x.tick(100), 100);
        CHECK.due("101", x.tick(101), OUTSIDE);
    }

    /**
     * "to 1000000 at most": that takes more calls than are promised, so this tells only what becomes
     * of a longer use; within 512 calls TIME comes to 51200 and each tick counts in full.
     */
    private static void theMostTime() {
        RegionRestarts x = new RegionRestarts();
        for (int i = 1; i <= 512; i++) {
            CHECK.due("tick " + i, x.tick(100), 100 * i);
        }
        for (int i = 513; i < 10000; i++) {
            x.tick(100);
        }
        CHECK.due("up to one below", x.tick(99), 999999);
        CHECK.due("the last one", x.tick(1), 1000000);
        CHECK.due("no more", x.tick(1), 1000000);
        CHECK.due("no more", x.tick(100), 1000000);
        CHECK.due("time", x.told(3), 1000000);
        RegionRestarts y = new RegionRestarts();
        for (int i = 1; i <= 9999; i++) {
            y.tick(100);
        }
        y.tick(99);
        CHECK.due("across the end", y.tick(2), 1000000);
    }

    private static void markOfNothing() {
        RegionRestarts x = new RegionRestarts();
        CHECK.due("no tasks", x.mark(), 1);
        x.task(0, 3, 0);
        x.task(5, 0, 0);
        x.channel(0, 1, true);
        CHECK.due("no step", x.mark(), 2);
        Jobs.stepAll(x);
        CHECK.due("begun again", x.fail(1), 1);
        CHECK.due("with nothing", x.taskAt(1, 2), 0);
    }

    /** "how many were so far". */
    private static void marksAreCounted() {
        RegionRestarts x = Jobs.chain(true, 5, Jobs.SOURCE, Jobs.SINK);
        for (int i = 1; i <= 500; i++) {
            CHECK.due("mark " + i, x.mark(), i);
        }
        CHECK.due("marks", x.told(4), 500);
    }

    /** "STATE: a task waits": up to its last tick, whichever task it is. */
    private static void markWhileATaskWaits() {
        for (int t = 0; t < 3; t++) {
            int task = t;
            Twins twins = new Twins(CHECK, "task " + t + " waits", () -> {
                RegionRestarts x = Jobs.chain(true, 9, Jobs.SOURCE, Jobs.TOTAL, Jobs.SINK);
                Jobs.stepAll(x);
                x.fail(task);
                x.fail(task);
                return x;
            });
            twins.refused("two ticks left", STATE, x -> x.mark());
            twins.both("tick", x -> x.tick(1));
            twins.refused("one tick left", STATE, x -> x.mark());
            twins.both("tick", x -> x.tick(1));
            twins.due("none is left", 1, x -> x.mark());
            twins.end();
        }
    }

    /** "STATE: .. or the job has ENDED." */
    private static void markAfterTheEnd() {
        Twins twins = new Twins(CHECK, "after the end", BoundsOfNumbersTest::ended);
        twins.refused("at once", STATE, x -> x.mark());
        twins.both("tick", x -> x.tick(100));
        twins.refused("when none waits", STATE, x -> x.mark());
        twins.end();
    }

    /** What is behind a mark that was refused is begun again all the same. */
    private static void refusedMarkMovesNothing() {
        RegionRestarts x = Jobs.chain(true, 9, Jobs.SOURCE, Jobs.TOTAL, Jobs.SINK);
        Jobs.stepAll(x);
        x.fail(0);
        CHECK.due("refused", x.mark(), STATE);
        x.fail(1);
        CHECK.due("place", x.taskAt(1, 2), 0);
        CHECK.due("sum", x.taskAt(1, 3), 0);
        CHECK.due("given", x.channelAt(1, 4), 0);
        CHECK.due("marks", x.told(4), 0);
    }

    /** "how many tasks there were": none. */
    private static void clearOfNothing() {
        RegionRestarts x = new RegionRestarts();
        CHECK.due("none", x.clear(), 0);
        CHECK.due("none again", x.clear(), 0);
        x.rule(9, true);
        x.tick(5);
        x.mark();
        x.gone(0);
        CHECK.due("without tasks", x.clear(), 0);
        CHECK.same("as new", Jobs.look(x), Jobs.look(new RegionRestarts()));
        CHECK.due("the bound", x.rule(1, false), 3);
    }

    private static void fill(RegionRestarts x) {
        for (int t = 0; t < 16; t++) {
            CHECK.due("task " + t, x.task(t < 5 ? 0 : t == 5 ? 4 : 5, t < 5 ? 20 : 0, t % 4), t);
        }
        CHECK.due("no more", x.task(5, 0, 0), ROOM);
        for (int c = 0; c < 40; c++) {
            CHECK.due("channel " + c, x.channel(c < 5 ? c : 5, c < 5 ? 5 : 6 + c % 10, true), c);
        }
        CHECK.due("no more", x.channel(0, 5, true), ROOM);
        CHECK.due("it had none", x.poison(15, 1000), 1001);
        CHECK.due("the bound", x.rule(9, true), 3);
        for (int t = 0; t < 5; t++) {
            Jobs.stepTimes(x, t, 3);
        }
        Jobs.stepTimes(x, 5, 9);
        CHECK.due("a full channel", x.channelAt(39, 3), 64);
        CHECK.due("the last row", x.row(39, 63), (15 + 9) % 20 + Jobs.drawn(64));
    }

    /** "All is as at the beginning": an object that was full can be filled again. */
    private static void clearOfAFullObject() {
        RegionRestarts x = new RegionRestarts();
        fill(x);
        for (int i = 0; i < 64; i++) {
            x.fail(6 + i % 9);
        }
        CHECK.due("causes", x.told(5), 64);
        x.gone(3);
        x.gone(2);
        x.gone(1);
        CHECK.due("tasks", x.clear(), 16);
        CHECK.due("none", x.told(0), 0);
        CHECK.due("no cause", x.cause(0, 0), NONE);
        CHECK.due("nodes", x.told(9), 4);
        fill(x);
    }

    /** The last task and the last channel have a part in THE MARK like the others. */
    private static void markOfAFullObject() {
        RegionRestarts x = new RegionRestarts();
        fill(x);
        Jobs.stepTimes(x, 15, 2);
        CHECK.due("a mark", x.mark(), 1);
        x.step(15);
        CHECK.due("place", x.taskAt(15, 2), 24);
        CHECK.due("begun again", x.fail(15), 1);
        CHECK.due("place", x.taskAt(15, 2), 16);
        CHECK.due("taken", x.channelAt(9, 5), 16);
        CHECK.due("rows of the last channel", x.channelAt(39, 3), 64);
        CHECK.due("none is behind the mark", x.lose(39), 0);
        CHECK.due("none is lost", x.channelAt(39, 6), 0);
    }

    /** An ended job, in which a step was done and a task waits, is open for all calls again. */
    private static void clearOpensEverything() {
        RegionRestarts x = BoundsOfNumbersTest.ended();
        CHECK.due("tasks", x.clear(), 3);
        CHECK.same("as new", Jobs.look(x), Jobs.look(new RegionRestarts()));
        CHECK.due("a task on the node that was gone", x.task(0, 3, 3), 0);
        CHECK.due("another one", x.task(5, 0, 0), 1);
        CHECK.due("a channel", x.channel(0, 1, true), 0);
        CHECK.due("a poison", x.poison(1, 9), 1001);
        CHECK.due("a mark", x.mark(), 1);
        CHECK.due("a step", x.step(0), 3);
        CHECK.due("a loss", x.lose(0), 1);
        CHECK.due("a node", x.gone(0), 1);
        CHECK.due("a fail", x.fail(1), 1);
    }

    /** "as at the beginning": "nothing is set ASIDE" then. */
    private static void clearSetsNothingAside() {
        RegionRestarts x = new RegionRestarts();
        x.rule(9, true);
        x.clear();
        x.task(0, 3, 0);
        x.poison(0, 0);
        for (int i = 0; i < 4; i++) {
            CHECK.due("it throws", x.step(0), THREW);
            x.tick(16);
        }
        CHECK.due("none is set aside", x.taskAt(0, 9), 0);
        CHECK.due("four fails are more than the bound", x.told(6), 1);
    }
}
