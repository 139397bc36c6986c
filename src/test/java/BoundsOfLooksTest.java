/** Promises 13 to 19: the calls that only tell, and where what they can be asked ends. */
public final class BoundsOfLooksTest {
    private static final int OUTSIDE = -2, NONE = -9;
    private static final int LEAST = Integer.MIN_VALUE, MOST = Integer.MAX_VALUE;
    private static final Check CHECK = new Check();

    public static void main(String[] args) {
        whatOfATask();
        whatOfAChannel();
        whatOfACause();
        whatIsTold();
        rowsOfAChannel();
        rowsOfAFullChannel();
        rowsOfAnyNumber();
        rowsBegunAgain();
        rowsOfOut();
        rowsOfOtherSorts();
        rowsAside();
        rowsAsideAtTheirMost();
        causesByNumber();
        countsOfNothing();
        countsOfAll();
        seenMoreThanItHas();
        looksChangeNothing();
        CHECK.end();
    }

    private static RegionRestarts stepped() {
        RegionRestarts x = Jobs.chain(true, 9, Jobs.SOURCE, Jobs.TOTAL, Jobs.SINK);
        Jobs.stepAll(x);
        x.fail(2);
        return x;
    }

    /** "OUTSIDE": 0 to 9, of every task. */
    private static void whatOfATask() {
        RegionRestarts x = stepped();
        for (int t = 0; t < 3; t++) {
            for (int what : new int[] {LEAST, -9, -1, 10, 11, MOST}) {
                CHECK.due("taskAt(" + t + ", " + what + ")", x.taskAt(t, what), OUTSIDE);
            }
            for (int what = 0; what <= 9; what++) {
                CHECK.yes("taskAt(" + t + ", " + what + ")", x.taskAt(t, what) >= 0);
            }
        }
        CHECK.due("the first", x.taskAt(2, 0), 5);
        CHECK.due("the last", x.taskAt(2, 9), 0);
    }

    /** "OUTSIDE": 0 to 8, of every channel. */
    private static void whatOfAChannel() {
        RegionRestarts x = stepped();
        for (int c = 0; c < 2; c++) {
            for (int what : new int[] {LEAST, -8, -1, 9, 10, MOST}) {
                CHECK.due("channelAt(" + c + ", " + what + ")", x.channelAt(c, what), OUTSIDE);
            }
            for (int what = 0; what <= 8; what++) {
                CHECK.yes("channelAt(" + c + ", " + what + ")", x.channelAt(c, what) >= 0);
            }
        }
        CHECK.due("the first", x.channelAt(1, 0), 1);
        CHECK.due("the last", x.channelAt(1, 8), 8);
    }

    /** "OUTSIDE: what": 0 to 2, of causes that there are and of others. */
    private static void whatOfACause() {
        RegionRestarts x = stepped();
        for (int k : new int[] {LEAST, -1, 0, 1, 63, 64, MOST}) {
            for (int what : new int[] {LEAST, -2, -1, 3, 4, MOST}) {
                CHECK.due("cause(" + k + ", " + what + ")", x.cause(k, what), OUTSIDE);
            }
        }
        int[] due = {2, 0, 1};
        for (int what = 0; what <= 2; what++) {
            CHECK.due("cause(0, " + what + ")", x.cause(0, what), due[what]);
        }
    }

    /** "OUTSIDE.": 0 to 10. */
    private static void whatIsTold() {
        RegionRestarts x = stepped();
        for (int what : new int[] {LEAST, -10, -1, 11, 12, MOST}) {
            CHECK.due("told(" + what + ")", x.told(what), OUTSIDE);
        }
        int[] due = {3, 2, 3, 0, 0, 1, 0, 1, 0, 4, 1};
        for (int what = 0; what <= 10; what++) {
            CHECK.due("told(" + what + ")", x.told(what), due[what]);
        }
    }

    private static void noRows(RegionRestarts x, int channel, int from) {
        for (int k : new int[] {LEAST, -64, -1, from, from + 1, 64, 65, MOST}) {
            CHECK.due("row(" + channel + ", " + k + ")", x.row(channel, k), NONE);
        }
    }

    /** "NONE: there is none such": none at all, one, eight. */
    private static void rowsOfAChannel() {
        for (int rows : new int[] {0, 1, 7, 8}) {
            RegionRestarts x = Jobs.chain(true, rows, Jobs.SOURCE, Jobs.SINK);
            noRows(x, 0, 0);
            x.step(0);
            noRows(x, 0, rows);
            for (int k = 0; k < rows; k++) {
                CHECK.due("row(0, " + k + ")", x.row(0, k), 3 * k % 20);
            }
        }
    }

    private static void rowsOfAFullChannel() {
        RegionRestarts x = new RegionRestarts();
        x.task(0, 20, 0);
        x.task(1, 1, 0);
        x.task(5, 0, 0);
        for (int c = 0; c < 4; c++) {
            x.channel(0, 1, true);
        }
        x.channel(1, 2, true);
        Jobs.stepTimes(x, 0, 3);
        Jobs.stepTimes(x, 1, 10);
        noRows(x, 4, 64);
        for (int k = 0; k < 64; k++) {
            CHECK.due("row(4, " + k + ")", x.row(4, k), 3 * (k % 20) % 20 + 1);
        }
    }

    /** "(It may be any number.)": also one that tells something else where it is no row. */
    private static void rowsOfAnyNumber() {
        for (int number : new int[] {-1, -2, -3, -4, -5, -9}) {
            RegionRestarts x = new RegionRestarts();
            x.task(0, 1, 0);
            x.task(1, number, 0);
            x.task(5, 0, 0);
            x.channel(0, 1, true);
            x.channel(1, 2, true);
            Jobs.stepAll(x);
            CHECK.due("row", x.row(1, 0), number);
            CHECK.due("out", x.out(2, 0), number);
            CHECK.due("rows", x.channelAt(1, 3), 1);
            CHECK.due("rows of out", x.taskAt(2, 8), 1);
        }
    }

    /** Rows that a channel no longer has are not told, those that it keeps or that are LOST are. */
    private static void rowsBegunAgain() {
        RegionRestarts x = Jobs.chain(true, 8, Jobs.SOURCE, Jobs.SINK);
        Jobs.stepAll(x);
        x.fail(0);
        CHECK.due("kept", x.row(0, 7), 1);
        x.lose(0);
        CHECK.due("lost", x.row(0, 7), 1);
        x.fail(0);
        noRows(x, 0, 0);
        RegionRestarts y = Jobs.chain(false, 8, Jobs.SOURCE, Jobs.SINK);
        Jobs.stepAll(y);
        y.fail(1);
        noRows(y, 0, 0);
        CHECK.due("nor of out", y.out(1, 0), NONE);
    }

    /** "Row k of a SINK's OUT .. NONE: there is none such." */
    private static void rowsOfOut() {
        for (int rows : new int[] {0, 1, 8}) {
            RegionRestarts x = Jobs.chain(true, rows, Jobs.SOURCE, Jobs.SINK);
            CHECK.due("at first", x.out(1, 0), NONE);
            Jobs.stepAll(x);
            for (int k : new int[] {LEAST, -200, -1, rows, rows + 1, 199, 200, 201, MOST}) {
                CHECK.due("out(1, " + k + ") of " + rows, x.out(1, k), NONE);
            }
            for (int k = 0; k < rows; k++) {
                CHECK.due("out(1, " + k + ") of " + rows, x.out(1, k), 3 * k % 20);
            }
        }
    }

    private static void rowsOfOtherSorts() {
        RegionRestarts x = Jobs.chain(true, 8, 0, 1, 2, 3, 4, 5);
        Jobs.stepAll(x);
        for (int t = 0; t < 5; t++) {
            CHECK.due("out of sort " + t, x.out(t, 0), NONE);
            CHECK.due("how many", x.taskAt(t, 8), 0);
            CHECK.due("aside of sort " + t, x.aside(t, 0), NONE);
        }
    }

    /** "The number of row k (by the order in which they came) .. NONE." */
    private static void rowsAside() {
        RegionRestarts x = Jobs.chain(true, 20, Jobs.SOURCE, Jobs.SINK);
        x.poison(0, 17);
        x.rule(9, true);
        CHECK.due("none at first", x.aside(0, 0), NONE);
        for (int i = 0; i < 60 && x.taskAt(0, 9) == 0; i++) {
            x.step(0);
            x.tick(16);
        }
        CHECK.due("the last row", x.aside(0, 0), 19);
        for (int k : new int[] {LEAST, -8, -1, 1, 7, 8, 9, MOST}) {
            CHECK.due("aside(0, " + k + ")", x.aside(0, k), NONE);
        }
        CHECK.due("of the other task", x.aside(1, 0), NONE);
    }

    /** A row costs four FAILS, and a job has ended with ten: no task comes to more than two of eight. */
    private static void rowsAsideAtTheirMost() {
        RegionRestarts x = new RegionRestarts();
        x.task(0, 1, 0);
        x.task(5, 0, 0);
        for (int c = 0; c < 3; c++) {
            x.channel(0, 1, true);
        }
        x.poison(1, 0);
        x.rule(9, true);
        x.step(0);
        for (int i = 0; i < 60 && x.told(6) == 0; i++) {
            x.step(1);
            x.tick(16);
        }
        CHECK.due("ended", x.told(6), 1);
        CHECK.due("fails", x.taskAt(1, 5), 10);
        CHECK.due("aside", x.taskAt(1, 9), 2);
        CHECK.due("the first", x.aside(1, 0), 0);
        CHECK.due("the second", x.aside(1, 1), 1);
        CHECK.due("no third", x.aside(1, 2), NONE);
    }

    /** "NONE: there is none such." */
    private static void causesByNumber() {
        RegionRestarts x = new RegionRestarts();
        x.rule(9, false);
        for (int t = 0; t < 8; t++) {
            x.task(5, 0, 0);
        }
        for (int count = 0; count <= 66; count++) {
            int there = Math.min(64, count);
            CHECK.due("the last of " + there, x.cause(there - 1, 1), there == 0 ? NONE : there - 1);
            CHECK.due("one beyond " + there, x.cause(there, 1), NONE);
            CHECK.due("one below", x.cause(-1, 1), NONE);
            x.fail(count % 8);
            x.tick(1);
        }
        CHECK.due("far below", x.cause(LEAST, 0), NONE);
        CHECK.due("far beyond", x.cause(MOST, 0), NONE);
    }

    private static void countsOfNothing() {
        RegionRestarts x = Jobs.chain(true, 0, Jobs.SOURCE, Jobs.SINK);
        int[] task = {0, 0, 0, 0, 8, 0, 0, 1, 0, 0};
        for (int what = 0; what <= 9; what++) {
            CHECK.due("taskAt(0, " + what + ")", x.taskAt(0, what), task[what]);
        }
        int[] channel = {0, 1, 1, 0, 0, 0, 0, 1, 0};
        for (int what = 0; what <= 8; what++) {
            CHECK.due("channelAt(0, " + what + ")", x.channelAt(0, what), channel[what]);
        }
    }

    private static void countsOfAll() {
        RegionRestarts x = new RegionRestarts();
        for (int t = 0; t < 16; t++) {
            x.task(5, 0, 0);
        }
        CHECK.due("all are done", x.told(8), 16);
        CHECK.due("none waits", x.told(7), 0);
        CHECK.due("all begin again", x.gone(0), 16);
        CHECK.due("all wait", x.told(7), 16);
        CHECK.due("all are done", x.told(8), 16);
        CHECK.due("times", x.told(10), 16);
        CHECK.due("causes", x.told(5), 16);
        x.tick(1);
        CHECK.due("none waits", x.told(7), 0);
    }

    /** "how many are SEEN (8; the first ones; also more than it has)". */
    private static void seenMoreThanItHas() {
        RegionRestarts x = Jobs.chain(true, 9, Jobs.SOURCE, Jobs.SINK);
        x.step(0);
        CHECK.due("none is seen", x.channelAt(0, 8), 0);
        x.step(1);
        CHECK.due("eight are", x.channelAt(0, 8), 8);
        x.lose(0);
        x.fail(0);
        CHECK.due("it has none", x.channelAt(0, 3), 0);
        CHECK.due("none is lost", x.channelAt(0, 6), 0);
        CHECK.due("eight are seen", x.channelAt(0, 8), 8);
        CHECK.due("and taken", x.channelAt(0, 5), 8);
        x.fail(1);
        CHECK.due("seen by one that began again", x.channelAt(0, 8), 8);
        CHECK.due("not taken", x.channelAt(0, 5), 0);
    }

    private static void looksChangeNothing() {
        RegionRestarts x = stepped();
        RegionRestarts y = stepped();
        String first = Jobs.look(x);
        CHECK.same("looked at twice", Jobs.look(x), first);
        CHECK.due("a step of the one", x.step(1), 0);
        CHECK.due("and of the other", y.step(1), 0);
        CHECK.same("looked at once", Jobs.look(y), Jobs.look(x));
    }
}
