/** Promises 8 and 9 and the fourth part of "Terms": nodes that go, and rows that are LOST. */
public final class BoundsOfNodesAndLossTest {
    private static final int STATE = -3, NONE = -9;
    private static final Check CHECK = new Check();

    public static void main(String[] args) {
        nodeThatIsGone();
        lastNode();
        nodeAfterTheEnd();
        nodeWithoutTasks();
        nodeWithAllTasks();
        toTheFewest();
        toTheOnlyOneLeft();
        toOneThatHasAllOthers();
        nodeAtTheBound();
        nodeAboveTheBound();
        waitByTheMostFails();
        rowsOfANodeAtTheMark();
        directChannel();
        lossAfterTheEnd();
        lossOfNothing();
        lossOfRowsOfTheMark();
        lossWhenJustAllAreTaken();
        lossOfAFullChannel();
        lossTwice();
        lossAtTheBound();
        lossAboveTheBound();
        marksForgetLosses();
        CHECK.end();
    }

    private static RegionRestarts stepped() {
        RegionRestarts x = Jobs.chain(true, 5, Jobs.SOURCE, Jobs.ADD, Jobs.SINK);
        x.channel(0, 2, false);
        Jobs.stepAll(x);
        return x;
    }

    /** "STATE: it is gone". */
    private static void nodeThatIsGone() {
        for (int n = 0; n < 4; n++) {
            int node = n;
            Twins twins = new Twins(CHECK, "node " + n, () -> {
                RegionRestarts x = stepped();
                x.gone(node);
                return x;
            });
            twins.refused("again", STATE, x -> x.gone(node));
            twins.end();
        }
    }

    /** "STATE: .. it is the last one": whichever that is, with tasks on it or without. */
    private static void lastNode() {
        for (int n = 0; n < 4; n++) {
            int last = n;
            Twins twins = new Twins(CHECK, "last node " + n, () -> {
                RegionRestarts x = stepped();
                for (int i = 1; i < 4; i++) {
                    CHECK.yes("it goes", x.gone((last + i) % 4) >= 0);
                }
                CHECK.due("one is left", x.told(9), 1);
                return x;
            });
            twins.refused("it", STATE, x -> x.gone(last));
            twins.refused("one that is gone", STATE, x -> x.gone((last + 1) % 4));
            twins.end();
            RegionRestarts empty = new RegionRestarts();
            for (int i = 1; i < 4; i++) {
                CHECK.due("without tasks", empty.gone((n + i) % 4), 0);
            }
            CHECK.due("without tasks, the last one", empty.gone(n), STATE);
            CHECK.due("it takes a task", empty.task(5, 0, n), 0);
        }
    }

    /** "STATE: .. the job has ENDED." */
    private static void nodeAfterTheEnd() {
        Twins twins = new Twins(CHECK, "after the end", BoundsOfNumbersTest::ended);
        for (int n = 0; n < 4; n++) {
            int node = n;
            twins.refused("node " + n, STATE, x -> x.gone(node));
        }
        twins.end();
    }

    /** "(0: none, or the job has ENDED)": none, and but for the nodes all is as it was. */
    private static void nodeWithoutTasks() {
        RegionRestarts x = stepped();
        String before = Jobs.look(x);
        CHECK.due("none", x.gone(3), 0);
        String after = Jobs.look(x);
        CHECK.same("tasks, channels, causes", after.substring(after.indexOf('\n')),
                before.substring(before.indexOf('\n')));
        int[] told = {3, 3, 3, 0, 0, 0, 0, 0, 2, 3, 0};
        for (int what = 0; what < told.length; what++) {
            CHECK.due("told(" + what + ")", x.told(what), told[what]);
        }
    }

    /** "each to that of the other NODES that are there which has the fewest tasks then". */
    private static void nodeWithAllTasks() {
        RegionRestarts x = new RegionRestarts();
        for (int t = 0; t < 16; t++) {
            x.task(5, 0, 1);
        }
        CHECK.due("all", x.gone(1), 16);
        int[] nodes = {0, 2, 3};
        for (int t = 0; t < 16; t++) {
            CHECK.due("task " + t, x.taskAt(t, 1), nodes[t % 3]);
            CHECK.due("fails of " + t, x.taskAt(t, 5), 1);
            CHECK.due("cause " + t, x.cause(t, 0), t);
        }
        CHECK.due("they wait", x.told(7), 16);
    }

    /** "of several the first one": with 1 2 1 tasks there, two more go to nodes 1 and 3. */
    private static void toTheFewest() {
        RegionRestarts x = new RegionRestarts();
        for (int node : new int[] {0, 1, 2, 2, 3, 0, 0}) {
            x.task(5, 0, node);
        }
        CHECK.due("three", x.gone(0), 3);
        CHECK.due("of several the first one", x.taskAt(0, 1), 1);
        CHECK.due("the one that has fewer", x.taskAt(5, 1), 3);
        CHECK.due("and again the first one", x.taskAt(6, 1), 1);
    }

    private static void toTheOnlyOneLeft() {
        for (int n = 0; n < 4; n++) {
            RegionRestarts x = stepped();
            x.rule(9, false);
            for (int i = 1; i < 4; i++) {
                x.gone((n + i) % 4);
            }
            for (int t = 0; t < 3; t++) {
                CHECK.due("task " + t, x.taskAt(t, 1), n);
            }
        }
    }

    private static void toOneThatHasAllOthers() {
        RegionRestarts x = new RegionRestarts();
        for (int t = 0; t < 16; t++) {
            x.task(5, 0, t == 7 ? 3 : 1);
        }
        x.gone(0);
        x.gone(2);
        CHECK.due("one task", x.gone(3), 1);
        CHECK.due("it goes to the other fifteen", x.taskAt(7, 1), 1);
    }

    private static RegionRestarts beforeTheNodeGoes(int fails, int bound) {
        RegionRestarts x = new RegionRestarts();
        x.task(0, 5, 1);
        x.task(1, 0, 1);
        x.task(5, 0, 1);
        x.channel(0, 1, true);
        x.channel(1, 2, true);
        x.rule(bound, false);
        for (int i = 0; i < fails; i++) {
            x.fail(1);
            x.tick(16);
        }
        Jobs.stepAll(x);
        return x;
    }

    /** "(if any are more than the BOUND, the job has ENDED)": as many are not. */
    private static void nodeAtTheBound() {
        RegionRestarts x = beforeTheNodeGoes(3, 4);
        CHECK.due("all begin again", x.gone(1), 3);
        CHECK.due("fails", x.taskAt(1, 5), 4);
        CHECK.due("not ended", x.told(6), 0);
        CHECK.due("moved", x.taskAt(1, 1), 2);
    }

    /** "else they go": here nothing but causes, FAILS and the node itself changes. */
    private static void nodeAboveTheBound() {
        RegionRestarts x = beforeTheNodeGoes(4, 4);
        CHECK.due("ended", x.gone(1), 0);
        CHECK.due("ended", x.told(6), 1);
        int[] fails = {1, 5, 1};
        for (int t = 0; t < 3; t++) {
            CHECK.due("cause of " + t, x.cause(4 + t, 0), t);
            CHECK.due("its kind", x.cause(4 + t, 2), 2);
            CHECK.due("fails of " + t, x.taskAt(t, 5), fails[t]);
            CHECK.due("it stays", x.taskAt(t, 1), 1);
            CHECK.due("place of " + t, x.taskAt(t, 2), 5);
            CHECK.due("it does not wait", x.taskAt(t, 6), 0);
        }
        CHECK.due("no more causes", x.cause(7, 0), NONE);
        CHECK.due("no row is lost", x.channelAt(0, 6), 0);
        CHECK.due("rows are there", x.channelAt(1, 3), 5);
        CHECK.due("times that a task began again", x.told(10), 4);
        CHECK.due("nodes", x.told(9), 3);
    }

    /** "and waits by the most FAILS of these", 16 at most. */
    private static void waitByTheMostFails() {
        int[] due = {1, 2, 4, 8, 16, 16, 16, 16, 16};
        for (int fails = 0; fails <= 8; fails++) {
            RegionRestarts x = beforeTheNodeGoes(fails, 9);
            x.gone(1);
            for (int t = 0; t < 3; t++) {
                CHECK.due(fails + " fails, task " + t, x.taskAt(t, 6), due[fails]);
            }
        }
    }

    /** "all rows behind THE MARK of KEPT channels that come from them are LOST": none, and one. */
    private static void rowsOfANodeAtTheMark() {
        RegionRestarts x = Jobs.chain(true, 9, Jobs.SOURCE, Jobs.SINK);
        x.step(0);
        x.mark();
        CHECK.due("the source", x.gone(0), 1);
        CHECK.due("it has all", x.channelAt(0, 3), 8);
        CHECK.due("given", x.channelAt(0, 4), 8);
        RegionRestarts y = Jobs.chain(true, 9, Jobs.SOURCE, Jobs.SINK);
        y.step(0);
        y.mark();
        y.step(0);
        CHECK.due("one is behind the mark", y.channelAt(0, 3), 9);
        CHECK.due("the source", y.gone(0), 1);
        CHECK.due("that is not there", y.channelAt(0, 3), 8);
        CHECK.due("none is lost then", y.channelAt(0, 6), 0);
    }

    /** "STATE: it is DIRECT". */
    private static void directChannel() {
        Twins twins = new Twins(CHECK, "direct", BoundsOfNodesAndLossTest::stepped);
        twins.refused("it", STATE, x -> x.lose(2));
        twins.end();
        Twins empty = new Twins(CHECK, "direct, without rows", () -> Jobs.chain(false, 5, 0, 5));
        empty.refused("it", STATE, x -> x.lose(0));
        empty.end();
    }

    /** "STATE: .. or the job has ENDED." */
    private static void lossAfterTheEnd() {
        Twins twins = new Twins(CHECK, "after the end", BoundsOfNumbersTest::ended);
        for (int c = 0; c < 3; c++) {
            int channel = c;
            twins.refused("channel " + c, STATE, x -> x.lose(channel));
        }
        twins.end();
    }

    private static void losesNothing(RegionRestarts x, String about) {
        String before = Jobs.look(x);
        CHECK.due(about, x.lose(0), 0);
        CHECK.same(about + ": nothing changes", Jobs.look(x), before);
    }

    private static void lossOfNothing() {
        RegionRestarts x = Jobs.chain(true, 9, Jobs.SOURCE, Jobs.SINK);
        losesNothing(x, "ahead of the first step");
        x.step(1);
        losesNothing(x, "no row was given");
        losesNothing(Jobs.chain(true, 0, Jobs.SOURCE, Jobs.SINK), "a source without rows");
    }

    /** "all that were given behind THE MARK": not those of before, taken or not. */
    private static void lossOfRowsOfTheMark() {
        RegionRestarts x = Jobs.chain(true, 9, Jobs.SOURCE, Jobs.SINK);
        x.step(0);
        x.mark();
        losesNothing(x, "none is taken");
        x.step(1);
        losesNothing(x, "all are taken");
        x.step(0);
        CHECK.due("one is behind it", x.lose(0), 1);
        CHECK.due("it has the others", x.channelAt(0, 3), 8);
        CHECK.due("as they were", x.row(0, 7), 1);
    }

    /** "if the task to which it goes has not taken all of these": all but one, and all. */
    private static void lossWhenJustAllAreTaken() {
        RegionRestarts x = Jobs.chain(true, 9, Jobs.SOURCE, Jobs.SINK);
        Jobs.stepTimes(x, 0, 2);
        x.step(1);
        CHECK.due("all but one", x.lose(0), 1);
        CHECK.due("a cause", x.cause(0, 2), 3);
        CHECK.due("of the source", x.cause(0, 0), 0);
        RegionRestarts y = Jobs.chain(true, 9, Jobs.SOURCE, Jobs.SINK);
        Jobs.stepTimes(y, 0, 2);
        Jobs.stepTimes(y, 1, 2);
        CHECK.due("all", y.lose(0), 0);
        CHECK.due("no cause", y.told(5), 0);
        CHECK.due("they are lost", y.channelAt(0, 6), 9);
        CHECK.due("no fail", y.taskAt(0, 5), 0);
    }

    private static void lossOfAFullChannel() {
        RegionRestarts x = new RegionRestarts();
        for (int t = 0; t < 4; t++) {
            x.task(0, 20, 0);
        }
        x.task(1, 0, 0);
        x.task(5, 0, 0);
        for (int t = 0; t < 4; t++) {
            x.channel(t, 4, true);
        }
        x.channel(4, 5, true);
        for (int t = 0; t < 4; t++) {
            Jobs.stepTimes(x, t, 3);
        }
        Jobs.stepTimes(x, 4, 9);
        Jobs.stepTimes(x, 5, 8);
        CHECK.due("full", x.channelAt(4, 3), 64);
        CHECK.due("all are taken", x.lose(4), 0);
        CHECK.due("all are lost", x.channelAt(4, 6), 64);
        CHECK.due("the add with the sink", x.fail(5), 2);
        CHECK.due("none is lost", x.channelAt(4, 6), 0);
        CHECK.due("none is there", x.channelAt(4, 3), 0);
        CHECK.due("64 are seen", x.channelAt(4, 8), 64);
    }

    /** "new ones come behind them", and can be lost as well. */
    private static void lossTwice() {
        RegionRestarts x = Jobs.chain(true, 9, Jobs.SOURCE, Jobs.SINK);
        Jobs.stepAll(x);
        x.lose(0);
        losesNothing(x, "those that are lost");
        x.step(0);
        CHECK.due("one came behind", x.channelAt(0, 3), 9);
        CHECK.due("that is not lost", x.channelAt(0, 6), 8);
        CHECK.due("nor taken", x.lose(0), 1);
        CHECK.due("nothing is there", x.channelAt(0, 3), 0);
        losesNothing(x, "a channel that has none, of which eight were taken");
    }

    private static RegionRestarts beforeTheLoss(int fails, int bound) {
        RegionRestarts x = Jobs.chain(true, 9, Jobs.SOURCE, Jobs.SINK);
        x.rule(bound, false);
        for (int i = 0; i < fails; i++) {
            x.fail(0);
            x.tick(16);
        }
        x.step(0);
        return x;
    }

    private static void lossAtTheBound() {
        RegionRestarts x = beforeTheLoss(1, 2);
        CHECK.due("it begins again", x.lose(0), 1);
        CHECK.due("fails", x.taskAt(0, 5), 2);
        CHECK.due("not ended", x.told(6), 0);
        CHECK.due("it waits", x.taskAt(0, 6), 2);
    }

    /** "(0: .. the job has ENDED by it)": the rows are LOST, and nothing else is done. */
    private static void lossAboveTheBound() {
        RegionRestarts x = beforeTheLoss(2, 2);
        CHECK.due("ended by it", x.lose(0), 0);
        CHECK.due("ended", x.told(6), 1);
        CHECK.due("fails", x.taskAt(0, 5), 3);
        CHECK.due("its cause", x.cause(2, 2), 3);
        CHECK.due("rows are lost", x.channelAt(0, 6), 8);
        CHECK.due("it has them", x.channelAt(0, 3), 8);
        CHECK.due("place", x.taskAt(0, 2), 8);
        CHECK.due("it does not wait", x.taskAt(0, 6), 0);
    }

    /** "(When THE MARK is set, none is LOST any more: all that were are taken.)" */
    private static void marksForgetLosses() {
        RegionRestarts x = Jobs.chain(true, 9, Jobs.SOURCE, Jobs.SINK);
        Jobs.stepAll(x);
        x.lose(0);
        x.step(0);
        CHECK.due("lost", x.channelAt(0, 6), 8);
        x.mark();
        CHECK.due("none is", x.channelAt(0, 6), 0);
        CHECK.due("it has them", x.channelAt(0, 3), 9);
        losesNothing(x, "nothing behind the mark");
        CHECK.due("the sink alone", x.fail(1), 1);
        x.tick(1);
        CHECK.due("goes on behind them", x.step(1), 1);
        CHECK.due("with the ninth", x.out(1, 8), 4);
    }
}
