/** Promises 10, 11 and 20: tick, mark, clear. */
public final class TimeAndMarkTest {
    private static final int OUTSIDE = -2, STATE = -3;
    private static final Check CHECK = new Check();

    public static void main(String[] args) {
        tick();
        timeHasAnEnd();
        markRefused();
        markOfAllKinds();
        markWithRowsStillToBeGivenAgain();
        clear();
        clearedIsNew();
        clearedHasNoOldChannels();
        CHECK.end();
    }

    private static void tick() {
        RegionRestarts x = new RegionRestarts();
        CHECK.due("0", x.tick(0), OUTSIDE);
        CHECK.due("-1", x.tick(-1), OUTSIDE);
        CHECK.due("101", x.tick(101), OUTSIDE);
        CHECK.due("time", x.told(3), 0);
        CHECK.due("1", x.tick(1), 1);
        CHECK.due("100", x.tick(100), 101);
        CHECK.due("time", x.told(3), 101);
        x.task(5, 0, 0);
        for (int i = 0; i < 4; i++) {
            x.fail(0);
        }
        CHECK.due("after the end", x.tick(9), 110);
    }

    /** It takes more than 512 calls to come there, so this tells only that nothing breaks. */
    private static void timeHasAnEnd() {
        RegionRestarts x = new RegionRestarts();
        for (int i = 0; i < 10005; i++) {
            x.tick(100);
        }
        CHECK.due("at most", x.told(3), 1000000);
    }

    private static void markRefused() {
        RegionRestarts x = Jobs.chain(true, 3, Jobs.SOURCE, Jobs.SINK);
        CHECK.due("ahead of the first step", x.mark(), 1);
        CHECK.due("again", x.mark(), 2);
        x.fail(1);
        CHECK.due("a task waits", x.mark(), STATE);
        CHECK.due("marks", x.told(4), 2);
        x.tick(1);
        CHECK.due("none waits", x.mark(), 3);
        x.rule(1, false);
        x.fail(1);
        CHECK.due("ended", x.told(6), 1);
        CHECK.due("after the end", x.mark(), STATE);
        CHECK.due("of nothing", new RegionRestarts().mark(), 1);
    }

    private static void markOfAllKinds() {
        RegionRestarts x = Jobs.chain(true, 20, Jobs.SOURCE, Jobs.TOTAL, Jobs.SINK);
        Jobs.stepAll(x);
        x.mark();
        Jobs.stepAll(x);
        x.mark();
        Jobs.stepAll(x);
        for (int t = 0; t < 3; t++) {
            x.fail(t);
            CHECK.due("place of " + t, x.taskAt(t, 2), 16);
        }
        CHECK.due("sum", x.taskAt(1, 3), 0 + 3 + 6 + 9 + 12 + 15 + 18 + 1 + 4 + 7 + 10 + 13 + 16 + 19 + 2 + 5);
        CHECK.due("out", x.taskAt(2, 8), 16);
        CHECK.due("given", x.channelAt(0, 4), 16);
        CHECK.due("taken", x.channelAt(1, 5), 16);
    }

    private static void markWithRowsStillToBeGivenAgain() {
        RegionRestarts x = Jobs.chain(true, 8, Jobs.SOURCE, Jobs.SINK);
        x.step(0);
        x.fail(0);
        x.tick(1);
        CHECK.due("mark", x.mark(), 1);
        CHECK.due("it has all", x.channelAt(0, 3), 8);
        CHECK.due("none is given again", x.channelAt(0, 4), 0);
        x.step(0);
        x.step(1);
        CHECK.due("had at the mark: none is lost", x.lose(0), 0);
        CHECK.due("none", x.channelAt(0, 6), 0);
        CHECK.due("the source", x.gone(0), 1);
        CHECK.due("rows are there", x.channelAt(0, 3), 8);
        CHECK.due("none is given again", x.channelAt(0, 4), 0);
        CHECK.due("place", x.taskAt(0, 2), 0);
    }

    private static RegionRestarts used() {
        RegionRestarts x = Jobs.chain(true, 20, Jobs.SOURCE, Jobs.DRAW, Jobs.TOTAL, Jobs.SINK);
        x.poison(2, 7);
        x.rule(9, true);
        for (int i = 0; i < 40; i++) {
            Jobs.stepAll(x);
            x.tick(16);
            if (i % 10 == 3) {
                x.mark();
            }
        }
        x.gone(3);
        x.tick(16);
        Jobs.stepAll(x);
        x.lose(2);
        x.fail(0);
        return x;
    }

    private static void clear() {
        RegionRestarts x = used();
        CHECK.due("tasks", x.clear(), 4);
        CHECK.due("none now", x.clear(), 0);
        CHECK.due("as new", Jobs.look(x).equals(Jobs.look(new RegionRestarts())) ? 1 : 0, 1);
        CHECK.due("causes", x.cause(0, 0), -9);
        CHECK.due("bound", x.rule(3, false), 3);
        CHECK.due("node 3 is there", x.task(5, 0, 3), 0);
        RegionRestarts y = new RegionRestarts();
        y.task(5, 0, 0);
        for (int i = 0; i < 4; i++) {
            y.fail(0);
        }
        CHECK.due("ended", y.told(6), 1);
        CHECK.due("one task", y.clear(), 1);
        CHECK.due("not ended", y.told(6), 0);
    }

    /** The same job, once in a new object and once in one that was used and cleared. */
    private static void clearedIsNew() {
        RegionRestarts fresh = new RegionRestarts();
        RegionRestarts cleared = used();
        cleared.clear();
        RegionRestarts[] both = {fresh, cleared};
        for (RegionRestarts x : both) {
            x.task(0, 20, 0);
            x.task(4, 0, 1);
            x.task(3, 0, 2);
            x.task(5, 0, 3);
            x.channel(0, 1, false);
            x.channel(1, 2, true);
            x.channel(2, 3, true);
        }
        CHECK.due("told", Jobs.look(cleared).equals(Jobs.look(fresh)) ? 1 : 0, 1);
        for (RegionRestarts x : both) {
            CHECK.due("no poison", x.poison(2, 1000), 1001);
            Jobs.stepAll(x);
            x.fail(2);
        }
        CHECK.due("stepped", Jobs.look(cleared).equals(Jobs.look(fresh)) ? 1 : 0, 1);
    }

    /** The total took from the draw in the job before; in this one it does not, and is steady. */
    private static void clearedHasNoOldChannels() {
        RegionRestarts x = used();
        x.clear();
        x.task(0, 5, 0);
        x.task(4, 0, 1);
        x.task(3, 0, 1);
        x.task(5, 0, 2);
        x.channel(0, 1, true);
        x.channel(0, 2, true);
        x.channel(2, 3, true);
        Jobs.stepAll(x);
        CHECK.due("the draw and the total, not the sink", x.gone(1), 2);
    }
}
