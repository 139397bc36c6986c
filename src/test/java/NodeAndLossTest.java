/** Promises 8 and 9: gone and lose. */
public final class NodeAndLossTest {
    private static final int UNKNOWN = -1, STATE = -3;
    private static final Check CHECK = new Check();

    public static void main(String[] args) {
        goneRefused();
        goneWithoutTasks();
        goneMovesTasks();
        goneLosesRows();
        goneLosesOnlyBehindTheMark();
        goneTakesTheRegionOfAll();
        goneWaitsByTheMostFails();
        goneEndsTheJob();
        loseRefused();
        loseWhenAllAreTaken();
        loseWhenSomeAreNot();
        loseOnlyBehindTheMark();
        newRowsComeBehindLostOnes();
        loseOfRowsGivenAgain();
        loseWithNothingThere();
        loseEndsTheJob();
        CHECK.end();
    }

    private static void goneRefused() {
        RegionRestarts x = Jobs.chain(true, 5, Jobs.SOURCE, Jobs.SINK);
        CHECK.due("node -1", x.gone(-1), UNKNOWN);
        CHECK.due("node 4", x.gone(4), UNKNOWN);
        CHECK.due("it goes", x.gone(3), 0);
        CHECK.due("it is gone", x.gone(3), STATE);
        x.gone(2);
        CHECK.due("a task goes", x.gone(1), 1);
        CHECK.due("the last one", x.gone(0), STATE);
        CHECK.due("unknown ahead of state", x.gone(4), UNKNOWN);
        CHECK.due("nodes", x.told(9), 1);
        RegionRestarts y = Jobs.chain(true, 5, Jobs.SOURCE, Jobs.SINK);
        for (int i = 0; i < 4; i++) {
            y.fail(0);
        }
        CHECK.due("after the end", y.gone(0), STATE);
        CHECK.due("it is there", y.told(9), 4);
    }

    private static void goneWithoutTasks() {
        RegionRestarts x = Jobs.chain(true, 5, Jobs.SOURCE, Jobs.SINK);
        Jobs.stepAll(x);
        CHECK.due("none", x.gone(2), 0);
        CHECK.due("no cause", x.told(5), 0);
        CHECK.due("none waits", x.told(7), 0);
        CHECK.due("nodes", x.told(9), 3);
    }

    private static void goneMovesTasks() {
        RegionRestarts x = new RegionRestarts();
        int[] nodes = {1, 1, 1, 1, 0, 2, 2, 3};
        for (int node : nodes) {
            x.task(5, 0, node);
        }
        x.tick(7);
        CHECK.due("four", x.gone(1), 4);
        int[] due = {0, 3, 0, 2, 0, 2, 2, 3};
        for (int t = 0; t < due.length; t++) {
            CHECK.due("task " + t, x.taskAt(t, 1), due[t]);
            CHECK.due("fails of " + t, x.taskAt(t, 5), t < 4 ? 1 : 0);
            CHECK.due("waits: " + t, x.taskAt(t, 6), t < 4 ? 1 : 0);
        }
        CHECK.due("causes", x.told(5), 4);
        for (int k = 0; k < 4; k++) {
            CHECK.due("by numbers", x.cause(k, 0), k);
            CHECK.due("then", x.cause(k, 1), 7);
            CHECK.due("its node went", x.cause(k, 2), 2);
        }
        x.gone(0);
        int[] then = {3, 3, 2, 2, 3, 2, 2, 3};
        for (int t = 0; t < then.length; t++) {
            CHECK.due("and then task " + t, x.taskAt(t, 1), then[t]);
        }
    }

    private static void goneLosesRows() {
        RegionRestarts x = Jobs.chain(true, 5, Jobs.SOURCE, Jobs.ADD, Jobs.SINK);
        Jobs.stepAll(x);
        CHECK.due("the add alone", x.gone(1), 1);
        CHECK.due("its rows are not there", x.channelAt(1, 3), 0);
        CHECK.due("none is lost any more", x.channelAt(1, 6), 0);
        CHECK.due("the sink took them", x.channelAt(1, 5), 5);
        CHECK.due("they are seen", x.channelAt(1, 8), 5);
        CHECK.due("rows to it are kept", x.channelAt(0, 3), 5);
        x.tick(1);
        x.step(1);
        CHECK.due("the sink has no more", x.step(2), 0);
        CHECK.due("out", x.taskAt(2, 8), 5);
        CHECK.due("all are done", x.told(8), 3);
    }

    private static void goneLosesOnlyBehindTheMark() {
        RegionRestarts x = Jobs.chain(true, 12, Jobs.SOURCE, Jobs.ADD, Jobs.SINK);
        x.step(0);
        x.step(1);
        x.mark();
        x.step(0);
        x.step(1);
        CHECK.due("the source alone", x.gone(0), 1);
        CHECK.due("rows at the mark", x.channelAt(0, 3), 8);
        CHECK.due("rows of others", x.channelAt(1, 3), 12);
        CHECK.due("taken", x.channelAt(0, 5), 12);
    }

    private static void goneTakesTheRegionOfAll() {
        RegionRestarts x = new RegionRestarts();
        x.task(0, 4, 0);
        x.task(4, 0, 1);
        x.task(1, 0, 1);
        x.task(5, 0, 2);
        x.task(0, 3, 1);
        x.task(5, 0, 3);
        x.channel(0, 1, true);
        x.channel(1, 2, true);
        x.channel(2, 3, true);
        x.channel(4, 5, false);
        Jobs.stepAll(x);
        CHECK.due("the draw, the add, the sink that saw, and both of the direct one", x.gone(1), 5);
        CHECK.due("those that began again", x.told(10), 5);
        CHECK.due("causes are of those on it", x.told(5), 3);
        CHECK.due("fails of the sink", x.taskAt(3, 5), 0);
        CHECK.due("it waits all the same", x.taskAt(3, 6), 1);
        CHECK.due("the other sink has none", x.taskAt(5, 8), 0);
        CHECK.due("the source is as it was", x.taskAt(0, 2), 4);
    }

    private static void goneWaitsByTheMostFails() {
        RegionRestarts x = new RegionRestarts();
        x.task(5, 0, 0);
        x.task(5, 0, 0);
        x.task(5, 0, 0);
        x.fail(1);
        x.fail(1);
        x.tick(16);
        CHECK.due("three", x.gone(0), 3);
        for (int t = 0; t < 3; t++) {
            CHECK.due("waits: " + t, x.taskAt(t, 6), 4);
        }
    }

    private static void goneEndsTheJob() {
        RegionRestarts x = Jobs.chain(true, 5, Jobs.SOURCE, Jobs.ADD, Jobs.SINK, Jobs.SINK, Jobs.SINK);
        x.rule(1, false);
        Jobs.stepAll(x);
        x.fail(0);
        x.tick(1);
        x.step(0);
        CHECK.due("tasks 0 and 4 are on it", x.gone(0), 0);
        CHECK.due("ended", x.told(6), 1);
        CHECK.due("each has a cause", x.told(5), 3);
        CHECK.due("fails of 0", x.taskAt(0, 5), 2);
        CHECK.due("fails of 4", x.taskAt(4, 5), 1);
        CHECK.due("nothing else: node", x.taskAt(4, 1), 0);
        CHECK.due("nothing else: place", x.taskAt(0, 2), 5);
        CHECK.due("nothing else: lost", x.channelAt(0, 6), 0);
        CHECK.due("nothing else: waits", x.told(7), 0);
        CHECK.due("the node is gone", x.told(9), 3);
    }

    private static void loseRefused() {
        RegionRestarts x = Jobs.chain(false, 5, Jobs.SOURCE, Jobs.SINK);
        CHECK.due("channel -1", x.lose(-1), UNKNOWN);
        CHECK.due("channel 1", x.lose(1), UNKNOWN);
        CHECK.due("direct", x.lose(0), STATE);
        RegionRestarts y = Jobs.chain(true, 5, Jobs.SOURCE, Jobs.SINK);
        y.step(0);
        for (int i = 0; i < 4; i++) {
            y.fail(1);
        }
        CHECK.due("after the end", y.lose(0), STATE);
        CHECK.due("none is lost", y.channelAt(0, 6), 0);
    }

    private static void loseWhenAllAreTaken() {
        RegionRestarts x = Jobs.chain(true, 5, Jobs.SOURCE, Jobs.SINK);
        Jobs.stepAll(x);
        CHECK.due("none begins again", x.lose(0), 0);
        CHECK.due("they are lost", x.channelAt(0, 6), 5);
        CHECK.due("it has them", x.channelAt(0, 3), 5);
        CHECK.due("no cause", x.told(5), 0);
        CHECK.due("over", x.channelAt(0, 7), 1);
        CHECK.due("a mark", x.mark(), 1);
        CHECK.due("none is lost any more", x.channelAt(0, 6), 0);
        CHECK.due("so the sink is alone", x.fail(1), 1);
        CHECK.due("with its rows", x.taskAt(1, 8), 5);
    }

    private static void loseWhenSomeAreNot() {
        RegionRestarts x = Jobs.chain(true, 12, Jobs.SOURCE, Jobs.ADD, Jobs.SINK);
        x.step(0);
        x.step(1);
        x.step(2);
        x.step(0);
        x.step(1);
        x.tick(3);
        CHECK.due("the giver begins again", x.lose(1), 1);
        CHECK.due("its cause", x.cause(0, 0), 1);
        CHECK.due("then", x.cause(0, 1), 3);
        CHECK.due("rows were lost", x.cause(0, 2), 3);
        CHECK.due("its fails", x.taskAt(1, 5), 1);
        CHECK.due("none is lost any more", x.channelAt(1, 6), 0);
        CHECK.due("nor there", x.channelAt(1, 3), 0);
        CHECK.due("the sink goes on", x.channelAt(1, 5), 8);
        x.tick(1);
        x.step(1);
        CHECK.due("not what it had", x.step(2), 0);
        x.step(1);
        CHECK.due("the others", x.step(2), 4);
        CHECK.due("row 8", x.out(2, 8), 4);
    }

    private static void loseOnlyBehindTheMark() {
        RegionRestarts x = Jobs.chain(true, 12, Jobs.SOURCE, Jobs.SINK);
        x.step(0);
        x.mark();
        CHECK.due("none came behind it", x.lose(0), 0);
        CHECK.due("none is lost", x.channelAt(0, 6), 0);
        x.step(0);
        CHECK.due("not taken", x.lose(0), 1);
        CHECK.due("those at the mark are there", x.channelAt(0, 3), 8);
        x.tick(1);
        x.step(0);
        x.step(1);
        x.step(1);
        CHECK.due("taken", x.lose(0), 0);
        CHECK.due("four", x.channelAt(0, 6), 4);
        CHECK.due("of twelve", x.channelAt(0, 3), 12);
    }

    private static void newRowsComeBehindLostOnes() {
        RegionRestarts x = Jobs.chain(true, 20, Jobs.SOURCE, Jobs.SINK);
        x.step(0);
        x.step(1);
        x.lose(0);
        x.step(0);
        CHECK.due("lost", x.channelAt(0, 6), 8);
        CHECK.due("of those that it has", x.channelAt(0, 3), 16);
        CHECK.due("row 8", x.row(0, 8), 4);
        CHECK.due("the sink takes them", x.step(1), 8);
        CHECK.due("row 8 of out", x.out(1, 8), 4);
        CHECK.due("all are lost again", x.lose(0), 0);
        CHECK.due("lost", x.channelAt(0, 6), 16);
        CHECK.due("the sink needs the source", x.fail(1), 2);
        CHECK.due("nothing is there", x.channelAt(0, 3), 0);
    }

    /** The giver began again and has given only some; the taker had taken all of what is kept. */
    private static void loseOfRowsGivenAgain() {
        RegionRestarts x = Jobs.chain(true, 12, Jobs.SOURCE, Jobs.SINK);
        x.step(0);
        x.step(0);
        Jobs.stepTimes(x, 1, 2);
        x.fail(0);
        x.tick(1);
        x.step(0);
        CHECK.due("given again", x.channelAt(0, 4), 8);
        CHECK.due("taken, so none begins again", x.lose(0), 0);
        CHECK.due("all are lost", x.channelAt(0, 6), 12);
        x.step(0);
        CHECK.due("they stay lost", x.channelAt(0, 6), 12);
        CHECK.due("none comes behind", x.channelAt(0, 3), 12);
    }

    private static void loseWithNothingThere() {
        RegionRestarts x = Jobs.chain(true, 12, Jobs.SOURCE, Jobs.SINK);
        CHECK.due("none", x.lose(0), 0);
        CHECK.due("no cause", x.told(5), 0);
        Jobs.stepAll(x);
        x.lose(0);
        x.fail(0);
        CHECK.due("more taken than there are", x.channelAt(0, 5), 8);
        CHECK.due("none can be lost", x.lose(0), 0);
        CHECK.due("none is", x.channelAt(0, 6), 0);
    }

    private static void loseEndsTheJob() {
        RegionRestarts x = Jobs.chain(true, 12, Jobs.SOURCE, Jobs.SINK);
        x.rule(1, false);
        x.fail(0);
        x.tick(1);
        x.step(0);
        CHECK.due("ended by it", x.lose(0), 0);
        CHECK.due("ended", x.told(6), 1);
        CHECK.due("the rows are lost", x.channelAt(0, 6), 8);
        CHECK.due("a cause", x.cause(1, 2), 3);
        CHECK.due("place", x.taskAt(0, 2), 8);
    }
}
