/** Promises 1 to 5: a new object, task, channel, poison, rule. */
public final class SetUpTest {
    private static final int UNKNOWN = -1, OUTSIDE = -2, STATE = -3, ROOM = -4;
    private static final Check CHECK = new Check();

    public static void main(String[] args) {
        newObject();
        task();
        taskOnGoneNode();
        taskRoom();
        channel();
        channelRoom();
        poison();
        rule();
        firstStepClosesSetUp();
        CHECK.end();
    }

    private static void newObject() {
        RegionRestarts x = new RegionRestarts();
        for (int what = 0; what <= 10; what++) {
            CHECK.due("new: told(" + what + ")", x.told(what), what == 9 ? 4 : 0);
        }
        CHECK.due("new: cause", x.cause(0, 0), -9);
        CHECK.due("new: bound", x.rule(3, false), 3);
        x.task(0, 3, 0);
        x.poison(0, 0);
        for (int i = 0; i < 3; i++) {
            x.step(0);
            x.tick(16);
        }
        CHECK.due("new: with width 1", x.taskAt(0, 4), 1);
        x.rule(9, false);
        x.step(0);
        CHECK.due("new: no row is set aside", x.taskAt(0, 9), 0);
        CHECK.due("new: width stays 1", x.taskAt(0, 4), 1);
    }

    private static void task() {
        RegionRestarts x = new RegionRestarts();
        CHECK.due("node -1", x.task(0, 5, -1), UNKNOWN);
        CHECK.due("node 4", x.task(0, 5, 4), UNKNOWN);
        CHECK.due("node ahead of sort", x.task(9, 5, 4), UNKNOWN);
        CHECK.due("sort -1", x.task(-1, 5, 0), OUTSIDE);
        CHECK.due("sort 6", x.task(6, 5, 0), OUTSIDE);
        CHECK.due("source -1", x.task(0, -1, 0), OUTSIDE);
        CHECK.due("source 21", x.task(0, 21, 0), OUTSIDE);
        CHECK.due("add -21", x.task(1, -21, 0), OUTSIDE);
        CHECK.due("add 21", x.task(1, 21, 0), OUTSIDE);
        CHECK.due("only 0", x.task(2, 0, 0), OUTSIDE);
        CHECK.due("only 6", x.task(2, 6, 0), OUTSIDE);
        CHECK.due("none was made", x.told(0), 0);
        CHECK.due("source 0", x.task(0, 0, 0), 0);
        CHECK.due("source 20", x.task(0, 20, 3), 1);
        CHECK.due("add -20", x.task(1, -20, 1), 2);
        CHECK.due("add 20", x.task(1, 20, 2), 3);
        CHECK.due("only 1", x.task(2, 1, 0), 4);
        CHECK.due("only 5", x.task(2, 5, 0), 5);
        CHECK.due("total any", x.task(3, Integer.MIN_VALUE, 0), 6);
        CHECK.due("draw any", x.task(4, Integer.MAX_VALUE, 0), 7);
        CHECK.due("sink any", x.task(5, -77, 0), 8);
        CHECK.due("sort of 5", x.taskAt(5, 0), 2);
        CHECK.due("node of 3", x.taskAt(3, 1), 2);
        CHECK.due("tasks", x.told(0), 9);
    }

    private static void taskOnGoneNode() {
        RegionRestarts x = new RegionRestarts();
        x.gone(2);
        CHECK.due("gone node", x.task(5, 0, 2), UNKNOWN);
        CHECK.due("gone node ahead of sort", x.task(6, 0, 2), UNKNOWN);
        CHECK.due("other node", x.task(5, 0, 1), 0);
    }

    private static void taskRoom() {
        RegionRestarts x = new RegionRestarts();
        for (int t = 0; t < 16; t++) {
            CHECK.due("task " + t, x.task(5, 0, t % 4), t);
        }
        CHECK.due("a 17th", x.task(5, 0, 0), ROOM);
        CHECK.due("outside ahead of room", x.task(0, 21, 0), OUTSIDE);
        CHECK.due("still 16", x.told(0), 16);
        x.step(0);
        CHECK.due("state ahead of room", x.task(5, 0, 0), STATE);
    }

    private static void channel() {
        RegionRestarts x = new RegionRestarts();
        x.task(0, 3, 0);
        x.task(0, 3, 0);
        x.task(5, 0, 0);
        x.task(1, 0, 0);
        CHECK.due("from -1", x.channel(-1, 2, true), UNKNOWN);
        CHECK.due("from 4", x.channel(4, 2, true), UNKNOWN);
        CHECK.due("to -1", x.channel(0, -1, true), UNKNOWN);
        CHECK.due("to 4", x.channel(0, 4, true), UNKNOWN);
        CHECK.due("to itself", x.channel(3, 3, true), OUTSIDE);
        CHECK.due("to a lesser one", x.channel(3, 2, true), OUTSIDE);
        CHECK.due("from a sink", x.channel(2, 3, true), OUTSIDE);
        CHECK.due("to a source", x.channel(0, 1, true), OUTSIDE);
        CHECK.due("none was made", x.told(1), 0);
        CHECK.due("kept", x.channel(0, 2, true), 0);
        CHECK.due("direct", x.channel(1, 3, false), 1);
        CHECK.due("the same two again", x.channel(1, 3, true), 2);
        CHECK.due("from of 1", x.channelAt(1, 0), 1);
        CHECK.due("to of 1", x.channelAt(1, 1), 3);
        CHECK.due("0 is kept", x.channelAt(0, 2), 1);
        CHECK.due("1 is direct", x.channelAt(1, 2), 0);
    }

    private static void channelRoom() {
        RegionRestarts x = new RegionRestarts();
        x.task(0, 20, 0);
        x.task(5, 0, 0);
        for (int c = 0; c < 40; c++) {
            CHECK.due("channel " + c, x.channel(0, 1, c % 2 == 0), c);
        }
        CHECK.due("a 41st", x.channel(0, 1, true), ROOM);
        CHECK.due("outside ahead of room", x.channel(1, 0, true), OUTSIDE);
        CHECK.due("still 40", x.told(1), 40);
        x.step(0);
        CHECK.due("state ahead of room", x.channel(0, 1, true), STATE);
        CHECK.due("the last one has rows", x.channelAt(39, 3), 8);
    }

    private static void poison() {
        RegionRestarts x = new RegionRestarts();
        x.task(0, 3, 0);
        CHECK.due("task -1", x.poison(-1, 0), UNKNOWN);
        CHECK.due("task 1", x.poison(1, 0), UNKNOWN);
        CHECK.due("unknown ahead of outside", x.poison(1, 5000), UNKNOWN);
        CHECK.due("-1001", x.poison(0, -1001), OUTSIDE);
        CHECK.due("1001", x.poison(0, 1001), OUTSIDE);
        CHECK.due("it had none", x.poison(0, -1000), 1001);
        CHECK.due("-1000", x.poison(0, 1000), -1000);
        CHECK.due("1000", x.poison(0, 3), 1000);
        CHECK.due("row 1 has the value 3", x.step(0), -5);
        CHECK.due("after a step", x.poison(0, 4), STATE);
        CHECK.due("outside ahead of state", x.poison(0, 1001), OUTSIDE);
    }

    private static void rule() {
        RegionRestarts x = new RegionRestarts();
        CHECK.due("bound 0", x.rule(0, true), OUTSIDE);
        CHECK.due("bound 10", x.rule(10, true), OUTSIDE);
        CHECK.due("bound 1", x.rule(1, false), 3);
        CHECK.due("bound 9", x.rule(9, false), 1);
        x.task(5, 0, 0);
        x.step(0);
        CHECK.due("after a step", x.rule(1, false), 9);
        CHECK.due("fails 1", x.fail(0), 1);
        CHECK.due("fails 2 is above 1", x.fail(0), 0);
        CHECK.due("ended", x.told(6), 1);
        CHECK.due("after the end", x.rule(2, true), 1);
        CHECK.due("it stays ended", x.told(6), 1);
    }

    private static void firstStepClosesSetUp() {
        RegionRestarts x = Jobs.chain(true, 3, Jobs.SOURCE, Jobs.SINK);
        CHECK.due("an unknown step", x.step(7), UNKNOWN);
        x.fail(0);
        CHECK.due("a step that waits", x.step(0), STATE);
        CHECK.due("is none: task", x.task(1, 0, 0), 2);
        CHECK.due("is none: channel", x.channel(0, 2, true), 1);
        CHECK.due("is none: poison", x.poison(2, 0), 1001);
        CHECK.due("no rows are there", x.step(2), 0);
        CHECK.due("but it is a step: task", x.task(1, 0, 0), STATE);
        CHECK.due("but it is a step: channel", x.channel(0, 2, true), STATE);
        CHECK.due("but it is a step: poison", x.poison(2, 0), STATE);
        RegionRestarts y = Jobs.chain(true, 3, Jobs.SOURCE, Jobs.SINK);
        y.poison(0, 0);
        CHECK.due("the first step throws", y.step(0), -5);
        CHECK.due("also that one: task", y.task(1, 0, 0), STATE);
        CHECK.due("also that one: channel", y.channel(0, 1, true), STATE);
        CHECK.due("also that one: poison", y.poison(1, 0), STATE);
    }
}
