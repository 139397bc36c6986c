/** Promises 13 to 19: taskAt, channelAt, row, out, aside, cause, told. */
public final class LookTest {
    private static final int UNKNOWN = -1, OUTSIDE = -2, NONE = -9;
    private static final Check CHECK = new Check();

    public static void main(String[] args) {
        taskAt();
        channelAt();
        doneAndOver();
        row();
        out();
        aside();
        cause();
        causeOutsideAheadOfNone();
        causesHaveAnEnd();
        told();
        CHECK.end();
    }

    private static void taskAt() {
        RegionRestarts x = Jobs.chain(true, 10, Jobs.SOURCE, Jobs.TOTAL, Jobs.SINK);
        Jobs.stepAll(x);
        x.tick(5);
        x.fail(2);
        x.fail(2);
        int[][] due = {{0, 0, 8, 0, 8, 0, 0, 0, 0, 0}, {3, 1, 8, 64, 8, 0, 0, 0, 0, 0}, {5, 2, 0, 0, 8, 2, 2, 0, 0, 0}};
        for (int t = 0; t < 3; t++) {
            for (int what = 0; what <= 9; what++) {
                CHECK.due("taskAt(" + t + ", " + what + ")", x.taskAt(t, what), due[t][what]);
            }
        }
        x.tick(1);
        CHECK.due("it waits still", x.taskAt(2, 6), 1);
        x.tick(7);
        CHECK.due("it does not wait", x.taskAt(2, 6), 0);
        x.step(2);
        CHECK.due("rows of out", x.taskAt(2, 8), 8);
        CHECK.due("task -1", x.taskAt(-1, 0), UNKNOWN);
        CHECK.due("task 3", x.taskAt(3, 0), UNKNOWN);
        CHECK.due("unknown ahead of outside", x.taskAt(3, 10), UNKNOWN);
        CHECK.due("what -1", x.taskAt(0, -1), OUTSIDE);
        CHECK.due("what 10", x.taskAt(0, 10), OUTSIDE);
    }

    private static void channelAt() {
        RegionRestarts x = Jobs.chain(true, 10, Jobs.SOURCE, Jobs.ADD, Jobs.SINK);
        Jobs.stepAll(x);
        x.lose(1);
        x.step(0);
        x.step(1);
        x.fail(0);
        int[][] due = {{0, 1, 1, 10, 0, 10, 0, 0, 10}, {1, 2, 1, 10, 10, 8, 8, 0, 8}};
        for (int c = 0; c < 2; c++) {
            for (int what = 0; what <= 8; what++) {
                CHECK.due("channelAt(" + c + ", " + what + ")", x.channelAt(c, what), due[c][what]);
            }
        }
        x.fail(1);
        CHECK.due("more are seen than there are", x.channelAt(1, 8), 8);
        CHECK.due("there are", x.channelAt(1, 3), 0);
        CHECK.due("channel -1", x.channelAt(-1, 0), UNKNOWN);
        CHECK.due("channel 2", x.channelAt(2, 0), UNKNOWN);
        CHECK.due("unknown ahead of outside", x.channelAt(2, 9), UNKNOWN);
        CHECK.due("what -1", x.channelAt(0, -1), OUTSIDE);
        CHECK.due("what 9", x.channelAt(0, 9), OUTSIDE);
    }

    private static void doneAndOver() {
        RegionRestarts x = new RegionRestarts();
        x.task(0, 9, 0);
        x.task(1, 0, 0);
        x.task(1, 0, 0);
        x.task(5, 0, 0);
        x.channel(0, 1, true);
        x.channel(1, 3, true);
        x.channel(2, 3, true);
        CHECK.due("without channels to it a task is done", x.taskAt(2, 7), 1);
        CHECK.due("and its channel over", x.channelAt(2, 7), 1);
        CHECK.due("one is done", x.told(8), 1);
        x.step(0);
        x.step(1);
        CHECK.due("the source is not done", x.taskAt(0, 7), 0);
        CHECK.due("all taken, not over", x.channelAt(0, 7), 0);
        x.step(0);
        CHECK.due("the source is done", x.taskAt(0, 7), 1);
        CHECK.due("not taken, not over", x.channelAt(0, 7), 0);
        x.step(1);
        CHECK.due("over", x.channelAt(0, 7), 1);
        CHECK.due("the add is done", x.taskAt(1, 7), 1);
        CHECK.due("the sink is not", x.taskAt(3, 7), 0);
        Jobs.stepTimes(x, 3, 2);
        CHECK.due("all are done", x.told(8), 4);
        x.fail(0);
        CHECK.due("none behind the source is done", x.told(8), 1);
    }

    private static void row() {
        RegionRestarts x = Jobs.chain(true, 5, Jobs.SOURCE, Jobs.SINK);
        Jobs.stepAll(x);
        CHECK.due("channel -1", x.row(-1, 0), UNKNOWN);
        CHECK.due("channel 1", x.row(1, 0), UNKNOWN);
        CHECK.due("row -1", x.row(0, -1), NONE);
        CHECK.due("row 0", x.row(0, 0), 0);
        CHECK.due("row 4", x.row(0, 4), 12);
        CHECK.due("row 5", x.row(0, 5), NONE);
        CHECK.due("row 64", x.row(0, 64), NONE);
        CHECK.due("far beyond", x.row(0, Integer.MAX_VALUE), NONE);
        x.fail(0);
        CHECK.due("it is kept, and not given again so far", x.row(0, 4), 12);
        x.lose(0);
        CHECK.due("it has those that are lost", x.row(0, 4), 12);
        x.fail(0);
        CHECK.due("not any more", x.row(0, 4), NONE);
    }

    private static void out() {
        RegionRestarts x = Jobs.chain(true, 5, Jobs.SOURCE, Jobs.SINK);
        Jobs.stepAll(x);
        CHECK.due("task -1", x.out(-1, 0), UNKNOWN);
        CHECK.due("task 2", x.out(2, 0), UNKNOWN);
        CHECK.due("row -1", x.out(1, -1), NONE);
        CHECK.due("row 0", x.out(1, 0), 0);
        CHECK.due("row 4", x.out(1, 4), 12);
        CHECK.due("row 5", x.out(1, 5), NONE);
        CHECK.due("row 200", x.out(1, 200), NONE);
        CHECK.due("no sink", x.out(0, 0), NONE);
        x.fail(1);
        CHECK.due("begun again", x.out(1, 0), NONE);
    }

    private static void aside() {
        RegionRestarts x = Jobs.chain(true, 5, Jobs.SOURCE, Jobs.SINK);
        x.poison(1, 9);
        x.rule(9, true);
        x.step(0);
        for (int i = 0; i < 9; i++) {
            x.step(1);
            x.tick(16);
        }
        CHECK.due("task -1", x.aside(-1, 0), UNKNOWN);
        CHECK.due("task 2", x.aside(2, 0), UNKNOWN);
        CHECK.due("row -1", x.aside(1, -1), NONE);
        CHECK.due("row 0", x.aside(1, 0), 3);
        CHECK.due("row 1", x.aside(1, 1), NONE);
        CHECK.due("row 8", x.aside(1, 8), NONE);
        CHECK.due("of another task", x.aside(0, 0), NONE);
        CHECK.due("how many", x.taskAt(1, 9), 1);
    }

    private static void cause() {
        RegionRestarts x = Jobs.chain(true, 5, Jobs.SOURCE, Jobs.ADD, Jobs.SINK);
        x.poison(2, 0);
        x.step(0);
        x.step(1);
        x.tick(2);
        x.step(2);
        x.tick(3);
        x.fail(0);
        x.tick(4);
        x.gone(1);
        x.tick(5);
        x.step(0);
        x.step(1);
        x.lose(1);
        int[][] due = {{2, 2, 0}, {0, 5, 1}, {1, 9, 2}, {1, 14, 3}};
        CHECK.due("causes", x.told(5), due.length);
        for (int k = 0; k < due.length; k++) {
            for (int what = 0; what <= 2; what++) {
                CHECK.due("cause(" + k + ", " + what + ")", x.cause(k, what), due[k][what]);
            }
        }
        CHECK.due("cause -1", x.cause(-1, 0), NONE);
        CHECK.due("cause 4", x.cause(4, 0), NONE);
        CHECK.due("what -1", x.cause(0, -1), OUTSIDE);
        CHECK.due("what 3", x.cause(0, 3), OUTSIDE);
        CHECK.due("outside ahead of none", x.cause(4, 3), OUTSIDE);
    }

    private static void causeOutsideAheadOfNone() {
        RegionRestarts x = new RegionRestarts();
        int[] missing = {Integer.MIN_VALUE, -1, 0, 1, 63, 64, Integer.MAX_VALUE};
        int[] outside = {Integer.MIN_VALUE, -2, -1, 3, 4, Integer.MAX_VALUE};
        for (int k : missing) {
            for (int what : outside) {
                CHECK.due("cause(" + k + ", " + what + ")", x.cause(k, what), OUTSIDE);
            }
            for (int what = 0; what <= 2; what++) {
                CHECK.due("cause(" + k + ", " + what + ")", x.cause(k, what), NONE);
            }
        }
    }

    private static void causesHaveAnEnd() {
        RegionRestarts x = new RegionRestarts();
        x.rule(9, false);
        for (int t = 0; t < 16; t++) {
            x.task(5, 0, 0);
        }
        for (int i = 0; i < 80; i++) {
            CHECK.due("fail " + i, x.fail(i % 16), 1);
            x.tick(1);
        }
        CHECK.due("causes", x.told(5), 64);
        CHECK.due("the last one", x.cause(63, 1), 63);
        CHECK.due("none behind it", x.cause(64, 0), NONE);
        CHECK.due("fails go on", x.taskAt(15, 5), 5);
        CHECK.due("times", x.told(10), 80);
    }

    private static void told() {
        RegionRestarts x = Jobs.chain(true, 5, Jobs.SOURCE, Jobs.ADD, Jobs.SINK);
        x.poison(2, 9);
        x.step(0);
        x.step(1);
        x.mark();
        x.step(0);
        x.step(2);
        x.step(2);
        x.tick(4);
        x.gone(3);
        x.gone(2);
        int[] due = {3, 2, 3, 4, 1, 2, 0, 1, 2, 2, 2};
        for (int what = 0; what < due.length; what++) {
            CHECK.due("told(" + what + ")", x.told(what), due[what]);
        }
        CHECK.due("what -1", x.told(-1), OUTSIDE);
        CHECK.due("what 11", x.told(11), OUTSIDE);
        for (int i = 0; i < 2; i++) {
            x.fail(2);
        }
        CHECK.due("ended", x.told(6), 1);
    }
}
