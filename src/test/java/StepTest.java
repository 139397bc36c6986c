/** Promise 6: step, with what the sorts of tasks give, and how rows are taken. */
public final class StepTest {
    private static final int UNKNOWN = -1, STATE = -3, THREW = -5, NONE = -9;
    private static final Check CHECK = new Check();

    public static void main(String[] args) {
        sources();
        add();
        only();
        total();
        sumsWrap();
        draw();
        drawWithoutChannels();
        everyChannelHasEachRow();
        channelsByNumbers();
        overAgainOnlyWhenGivenAgain();
        endsWhereOver();
        beyondOverOthersFollow();
        beyondOverNothingThrows();
        keptRowsAheadOfTheEnd();
        atMost64();
        rowsNotGivenTakeNoRoom();
        roomEndsWithinAStep();
        outAtMost200();
        throwDoesNothing();
        halvingSetsAside();
        withoutSettingAside();
        sourceSetsAside();
        twoAside();
        asideDoesNothingElse();
        poisonOfEverySort();
        poisonBeyondTheStep();
        poisonBeyondTheRoom();
        noPoisonIsNoValue();
        keptRowsAreNotDoubled();
        refused();
        CHECK.end();
    }

    private static void sources() {
        RegionRestarts x = new RegionRestarts();
        for (int t = 0; t < 4; t++) {
            x.task(0, t == 3 ? 20 : 0, 0);
        }
        x.task(5, 0, 0);
        x.channel(3, 4, true);
        CHECK.due("a source without rows", x.step(0), 0);
        CHECK.due("is done", x.taskAt(0, 7), 1);
        int[] taken = {8, 8, 4, 0};
        for (int i = 0; i < 4; i++) {
            CHECK.due("step " + i, x.step(3), taken[i]);
            CHECK.due("done after step " + i, x.taskAt(3, 7), i < 2 ? 0 : 1);
        }
        for (int k = 0; k < 20; k++) {
            CHECK.due("row " + k, x.row(0, k), (15 + 3 * k) % 20);
        }
        CHECK.due("no row 20", x.row(0, 20), NONE);
        CHECK.due("place", x.taskAt(3, 2), 20);
    }

    private static void add() {
        RegionRestarts x = new RegionRestarts();
        x.task(0, 4, 0);
        x.task(1, -20, 0);
        x.task(1, 7, 0);
        x.task(5, 0, 0);
        x.channel(0, 1, true);
        x.channel(1, 2, false);
        x.channel(2, 3, true);
        Jobs.stepAll(x);
        for (int k = 0; k < 4; k++) {
            CHECK.due("given " + k, x.row(1, k), 3 * k - 20);
            CHECK.due("out " + k, x.out(3, k), 3 * k - 13);
        }
        CHECK.due("sum of an add", x.taskAt(1, 3), 0);
    }

    private static void only() {
        RegionRestarts x = new RegionRestarts();
        x.task(0, 7, 0);
        x.task(1, -9, 0);
        x.task(2, 2, 0);
        x.task(5, 0, 0);
        x.channel(0, 1, true);
        x.channel(1, 2, true);
        x.channel(2, 3, true);
        x.step(0);
        x.step(1);
        CHECK.due("it takes all of -9 -6 -3 0 3 6 9", x.step(2), 7);
        CHECK.due("place", x.taskAt(2, 2), 7);
        CHECK.due("it gives the even ones", x.channelAt(2, 4), 3);
        CHECK.due("a negative one", x.row(2, 0), -6);
        CHECK.due("nought", x.row(2, 1), 0);
        CHECK.due("a positive one", x.row(2, 2), 6);
    }

    private static void total() {
        RegionRestarts x = Jobs.chain(true, 10, Jobs.SOURCE, Jobs.TOTAL, Jobs.SINK);
        Jobs.stepAll(x);
        Jobs.stepAll(x);
        int[] sums = {0, 3, 9, 18, 30, 45, 63, 64, 68, 75};
        for (int k = 0; k < 10; k++) {
            CHECK.due("sum " + k, x.out(2, k), sums[k]);
        }
        CHECK.due("the sum", x.taskAt(1, 3), 75);
    }

    private static void sumsWrap() {
        RegionRestarts x = Jobs.chain(false, 20, 0, 3, 3, 3, 3, 3, 3, 3, 3, 3, 3, 3, 3, 3, 3, 5);
        for (int round = 0; round < 3; round++) {
            Jobs.stepAll(x);
        }
        int[] rows = new int[20];
        for (int k = 0; k < 20; k++) {
            rows[k] = 3 * k % 20;
        }
        boolean wrapped = false;
        for (int task = 1; task <= 14; task++) {
            for (int k = 1; k < 20; k++) {
                rows[k] += rows[k - 1];
                wrapped |= rows[k] < 0;
            }
        }
        CHECK.due("a sum wrapped", wrapped ? 1 : 0, 1);
        for (int k = 0; k < 20; k++) {
            CHECK.due("wrapped sum " + k, x.out(15, k), rows[k]);
        }
    }

    private static void draw() {
        RegionRestarts x = new RegionRestarts();
        x.task(0, 6, 0);
        x.task(4, 99, 0);
        x.task(4, 99, 0);
        x.channel(0, 1, true);
        x.channel(0, 1, true);
        x.channel(1, 2, true);
        x.step(0);
        x.step(1);
        long drawn = 1;
        for (int k = 0; k < 8; k++) {
            drawn = drawn * 16807 % 2147483647L;
            CHECK.due("drawn for row " + k, x.row(2, k), 3 * (k % 6) + drawn % 10);
        }
        x.step(2);
        for (int k = 0; k < 8; k++) {
            drawn = drawn * 16807 % 2147483647L;
        }
        x.fail(1);
        x.tick(1);
        x.step(1);
        for (int k = 0; k < 8; k++) {
            drawn = drawn * 16807 % 2147483647L;
            CHECK.due("drawn is of the job and goes on", x.row(2, k), 3 * (k % 6) + drawn % 10);
        }
    }

    private static void drawWithoutChannels() {
        RegionRestarts x = new RegionRestarts();
        x.task(0, 1, 0);
        x.task(4, 0, 0);
        x.task(4, 0, 0);
        x.task(5, 0, 0);
        x.channel(0, 1, true);
        x.channel(0, 2, true);
        x.channel(2, 3, true);
        Jobs.stepAll(x);
        CHECK.due("the second number that is drawn", x.out(3, 0), 282475249 % 10);
    }

    private static void everyChannelHasEachRow() {
        RegionRestarts x = new RegionRestarts();
        x.task(0, 3, 0);
        x.task(4, 0, 0);
        x.task(5, 0, 0);
        x.task(5, 0, 0);
        x.channel(0, 1, true);
        x.channel(1, 2, true);
        x.channel(1, 3, false);
        x.channel(1, 3, true);
        Jobs.stepAll(x);
        for (int k = 0; k < 3; k++) {
            CHECK.due("channel 2, row " + k, x.row(2, k), x.row(1, k));
            CHECK.due("channel 3, row " + k, x.row(3, k), x.row(1, k));
            CHECK.due("out, first channel", x.out(3, k), x.row(1, k));
            CHECK.due("out, second channel", x.out(3, k + 3), x.row(1, k));
        }
        CHECK.due("rows of out", x.taskAt(3, 8), 6);
    }

    private static void channelsByNumbers() {
        RegionRestarts x = new RegionRestarts();
        x.task(0, 9, 0);
        x.task(0, 3, 0);
        x.task(5, 0, 0);
        x.channel(1, 2, true);
        x.channel(0, 2, true);
        x.step(0);
        CHECK.due("the first channel has none yet", x.step(2), 0);
        x.step(1);
        CHECK.due("both in one step", x.step(2), 8);
        CHECK.due("of the first", x.channelAt(0, 5), 3);
        CHECK.due("it is over", x.channelAt(0, 7), 1);
        CHECK.due("of the next", x.channelAt(1, 5), 5);
        CHECK.due("it is not over", x.channelAt(1, 7), 0);
        CHECK.due("row 2", x.out(2, 2), 11);
        CHECK.due("row 3", x.out(2, 3), 0);
        CHECK.due("what is there", x.step(2), 3);
        CHECK.due("not done", x.taskAt(2, 7), 0);
        CHECK.due("the ninth", x.step(0), 1);
        CHECK.due("taken", x.step(2), 1);
        CHECK.due("done", x.taskAt(2, 7), 1);
        CHECK.due("place", x.taskAt(2, 2), 12);

        RegionRestarts y = new RegionRestarts();
        y.task(0, 9, 0);
        y.task(0, 3, 0);
        y.task(5, 0, 0);
        y.channel(0, 2, true);
        y.channel(1, 2, true);
        y.step(0);
        y.step(1);
        CHECK.due("all that the first one has", y.step(2), 8);
        CHECK.due("it is not over: none of the next", y.step(2), 0);
        CHECK.due("none was taken of the next", y.channelAt(1, 5), 0);
    }

    private static void overAgainOnlyWhenGivenAgain() {
        RegionRestarts x = new RegionRestarts();
        x.task(0, 3, 0);
        x.task(0, 3, 0);
        x.task(5, 0, 0);
        x.channel(0, 2, true);
        x.channel(1, 2, true);
        x.step(0);
        CHECK.due("all of the first", x.step(2), 3);
        x.step(1);
        CHECK.due("it is over", x.channelAt(0, 7), 1);
        CHECK.due("the source alone", x.fail(0), 1);
        CHECK.due("it is not over", x.channelAt(0, 7), 0);
        CHECK.due("none of the next", x.step(2), 0);
        x.tick(1);
        x.step(0);
        CHECK.due("it is over again", x.channelAt(0, 7), 1);
        CHECK.due("those of the next", x.step(2), 3);
    }

    /**
     * Task 6 gave the rows 0 and 3 of task 0 to channel 4, and then set row 0 aside for a value that
     * is drawn no more: of the two rows that channel 4 keeps it will give one again.
     */
    private static RegionRestarts fewerGivenAgain(boolean sinkHasMore) {
        RegionRestarts x = new RegionRestarts();
        int[] sorts = {0, 0, 0, 0, 4, 2, 1, 5};
        int[] numbers = {2, 0, 0, 1, 0, 4, 0, 0};
        for (int t = 0; t < sorts.length; t++) {
            x.task(sorts[t], numbers[t], 0);
        }
        x.channel(3, 4, true);
        x.channel(4, 5, false);
        x.channel(5, 6, true);
        x.channel(0, 6, true);
        x.channel(6, 7, true);
        if (sinkHasMore) {
            x.channel(0, 7, true);
        }
        x.poison(6, 24);
        x.rule(9, true);
        return x;
    }

    private static void giveFewerAgain(RegionRestarts x) {
        x.step(0);
        x.step(3);
        drawAgain(x, 22, 0);
        CHECK.due("rows of the source alone", x.step(6), 2);
        CHECK.due("the two that draw", x.fail(4), 2);
        CHECK.due("the taker alone", x.fail(6), 1);
        x.tick(1);
        drawAgain(x, 24, 1);
        for (int i = 0; i < 4; i++) {
            CHECK.due("the drawn row is first", x.step(6), THREW);
            x.tick(16);
        }
        CHECK.due("row 0 is set aside", x.aside(6, 0), 0);
        CHECK.due("the drawn row was not taken", x.fail(4), 2);
        x.tick(2);
        drawAgain(x, 18, 0);
        CHECK.due("two rows are kept", x.channelAt(4, 3), 2);
        CHECK.due("none is given again so far", x.channelAt(4, 4), 0);
    }

    private static void drawAgain(RegionRestarts x, int value, int passes) {
        CHECK.due("it draws", x.step(4), 1);
        CHECK.due("drawn", x.row(1, 0), value);
        x.step(5);
        CHECK.due("passes", x.channelAt(2, 3), passes);
    }

    private static void endsWhereOver() {
        RegionRestarts x = fewerGivenAgain(false);
        giveFewerAgain(x);
        CHECK.due("both once more, one aside", x.step(6), 2);
        CHECK.due("it is done", x.taskAt(6, 7), 1);
        CHECK.due("one is given again", x.channelAt(4, 4), 1);
        CHECK.due("though two are there", x.channelAt(4, 3), 2);
        CHECK.due("not over so far", x.channelAt(4, 7), 0);
        CHECK.due("one is taken", x.step(7), 1);
        CHECK.due("of that channel", x.channelAt(4, 5), 1);
        CHECK.due("and seen", x.channelAt(4, 8), 1);
        CHECK.due("over", x.channelAt(4, 7), 1);
        CHECK.due("done", x.taskAt(7, 7), 1);
        CHECK.due("nothing more", x.step(7), 0);
        CHECK.due("rows of out", x.taskAt(7, 8), 1);
    }

    private static void beyondOverOthersFollow() {
        RegionRestarts x = fewerGivenAgain(true);
        giveFewerAgain(x);
        x.step(6);
        CHECK.due("one, and two of the next channel", x.step(7), 3);
        CHECK.due("the kept row", x.out(7, 0), 0);
        CHECK.due("the first of the next channel", x.out(7, 1), 0);
        CHECK.due("the second of it", x.out(7, 2), 3);
        CHECK.due("done", x.taskAt(7, 7), 1);
    }

    private static void beyondOverNothingThrows() {
        RegionRestarts x = fewerGivenAgain(false);
        x.poison(7, 3);
        giveFewerAgain(x);
        x.step(6);
        CHECK.due("the poison is there", x.row(4, 1), 3);
        CHECK.due("but is not taken", x.step(7), 1);
        CHECK.due("nor does it throw next", x.step(7), 0);
        CHECK.due("done", x.taskAt(7, 7), 1);
    }

    private static void keptRowsAheadOfTheEnd() {
        RegionRestarts x = fewerGivenAgain(true);
        giveFewerAgain(x);
        CHECK.due("all that are kept", x.step(7), 2);
        CHECK.due("taken", x.channelAt(4, 5), 2);
        CHECK.due("not over: nothing is given again", x.channelAt(4, 7), 0);
        x.step(6);
        CHECK.due("one is given again", x.channelAt(4, 4), 1);
        CHECK.due("over, with more taken than that", x.channelAt(4, 7), 1);
        CHECK.due("those of the next channel", x.step(7), 2);
        CHECK.due("done", x.taskAt(7, 7), 1);
    }

    private static RegionRestarts fourSourcesTo(int sort, int a) {
        RegionRestarts x = new RegionRestarts();
        for (int t = 0; t < 4; t++) {
            x.task(0, 20, 0);
        }
        x.task(sort, a, 0);
        x.task(5, 0, 0);
        for (int t = 0; t < 4; t++) {
            x.channel(t, 4, true);
        }
        x.channel(4, 5, true);
        x.channel(4, 5, false);
        return x;
    }

    private static void atMost64() {
        RegionRestarts x = fourSourcesTo(1, 1);
        x.step(0);
        Jobs.stepTimes(x, 4, 1);
        for (int t = 0; t < 4; t++) {
            Jobs.stepTimes(x, t, 3);
        }
        x.step(4);
        CHECK.due("16 so far", x.taskAt(4, 2), 16);
        CHECK.due("the last 4 of the first and 4 more", x.step(4), 8);
        for (int i = 3; i < 8; i++) {
            CHECK.due("step " + i, x.step(4), 8);
        }
        CHECK.due("no more", x.step(4), 0);
        CHECK.due("it gave", x.channelAt(5, 4), 64);
        CHECK.due("the last row", x.row(5, 63), (15 + 9) % 20 + 1);
        CHECK.due("not done", x.taskAt(4, 7), 0);

        RegionRestarts y = fourSourcesTo(1, 1);
        for (int t = 0; t < 4; t++) {
            Jobs.stepTimes(y, t, 3);
            Jobs.stepTimes(y, 4, 3);
        }
        CHECK.due("20 a source in steps of 8, 8, 4, and then 4", y.taskAt(4, 2), 64);
        CHECK.due("no more", y.step(4), 0);
    }

    private static void rowsNotGivenTakeNoRoom() {
        RegionRestarts x = fourSourcesTo(2, 2);
        for (int t = 0; t < 4; t++) {
            Jobs.stepTimes(x, t, 3);
        }
        Jobs.stepTimes(x, 4, 10);
        CHECK.due("all were taken", x.taskAt(4, 2), 80);
        CHECK.due("half were given", x.channelAt(5, 4), 40);
        CHECK.due("done", x.taskAt(4, 7), 1);
    }

    /** Every other row is given: the last four that there is room for are among seven. */
    private static void roomEndsWithinAStep() {
        RegionRestarts x = new RegionRestarts();
        x.task(0, 20, 0);
        x.task(2, 2, 0);
        x.task(5, 0, 0);
        for (int c = 0; c < 7; c++) {
            x.channel(0, 1, true);
        }
        x.channel(1, 2, true);
        Jobs.stepTimes(x, 0, 3);
        Jobs.stepTimes(x, 1, 15);
        CHECK.due("it gave", x.channelAt(7, 4), 60);
        CHECK.due("it takes", x.step(1), 7);
        CHECK.due("it gave", x.channelAt(7, 4), 64);
        CHECK.due("no more", x.step(1), 0);
    }

    private static void outAtMost200() {
        RegionRestarts x = new RegionRestarts();
        x.task(0, 3, 0);
        for (int t = 1; t <= 10; t++) {
            x.task(0, 20, 0);
        }
        x.task(5, 0, 0);
        for (int t = 0; t <= 10; t++) {
            x.channel(t, 11, true);
        }
        x.step(0);
        CHECK.due("three", x.step(11), 3);
        for (int t = 1; t <= 10; t++) {
            Jobs.stepTimes(x, t, 3);
        }
        for (int i = 0; i < 24; i++) {
            CHECK.due("step " + i, x.step(11), 8);
        }
        CHECK.due("up to 200", x.step(11), 5);
        CHECK.due("rows of out", x.taskAt(11, 8), 200);
        CHECK.due("no more", x.step(11), 0);
        CHECK.due("the last one", x.out(11, 199), (50 + 3 * 16) % 20);
        CHECK.due("none behind it", x.out(11, 200), NONE);
    }

    private static void throwDoesNothing() {
        RegionRestarts x = Jobs.chain(true, 8, Jobs.SOURCE, Jobs.DRAW, Jobs.TOTAL, Jobs.SINK);
        x.poison(1, 9);
        x.step(0);
        CHECK.due("row 3 has the value 9", x.step(1), THREW);
        CHECK.due("place", x.taskAt(1, 2), 0);
        CHECK.due("none was taken", x.channelAt(0, 5), 0);
        CHECK.due("none is seen", x.channelAt(0, 8), 0);
        CHECK.due("none was given", x.channelAt(1, 3), 0);
        CHECK.due("width", x.taskAt(1, 4), 4);
        CHECK.due("fails", x.taskAt(1, 5), 1);
        CHECK.due("steps", x.told(2), 1);
        x.tick(1);
        CHECK.due("again among four", x.step(1), THREW);
        x.tick(2);
        CHECK.due("not among two", x.step(1), 2);
        CHECK.due("none was drawn so far", x.row(1, 0), 7);
        CHECK.due("nor then", x.row(1, 1), 12);
        CHECK.due("steps", x.told(2), 2);
    }

    private static void halvingSetsAside() {
        RegionRestarts x = Jobs.chain(true, 8, Jobs.SOURCE, Jobs.TOTAL, Jobs.SINK);
        x.poison(1, 6);
        x.rule(9, true);
        x.step(0);
        int[] widths = {4, 2, 2, 1, 1, 1, 8};
        int[] answers = {THREW, THREW, 2, THREW, 1, 1, THREW};
        for (int i = 0; i < widths.length; i++) {
            CHECK.due("answer " + i, x.step(1), answers[i]);
            CHECK.due("width " + i, x.taskAt(1, 4), widths[i]);
            CHECK.due("aside " + i, x.taskAt(1, 9), i == 6 ? 1 : 0);
            x.tick(16);
        }
        CHECK.due("it failed, and began again", x.taskAt(1, 2), 0);
        CHECK.due("fails", x.taskAt(1, 5), 4);
        CHECK.due("row 2 is set aside", x.aside(1, 0), 2);
        CHECK.due("all rows at once", x.step(1), 8);
        CHECK.due("rows given", x.channelAt(1, 4), 7);
        CHECK.due("the third that is given", x.row(1, 2), 12);
        CHECK.due("the sum", x.taskAt(1, 3), 0 + 3 + 9 + 12 + 15 + 18 + 1);
        CHECK.due("done", x.taskAt(1, 7), 1);
    }

    private static void withoutSettingAside() {
        RegionRestarts x = Jobs.chain(true, 8, Jobs.SOURCE, Jobs.SINK);
        x.poison(1, 0);
        x.rule(5, false);
        x.step(0);
        for (int i = 0; i < 5; i++) {
            CHECK.due("throws", x.step(1), THREW);
            x.tick(16);
        }
        CHECK.due("width stays", x.taskAt(1, 4), 1);
        CHECK.due("none is aside", x.taskAt(1, 9), 0);
        CHECK.due("it throws once more", x.step(1), THREW);
        CHECK.due("and the job has ended", x.told(6), 1);
        CHECK.due("fails", x.taskAt(1, 5), 6);
        CHECK.due("causes", x.told(5), 6);
        CHECK.due("it waits no more than it did", x.taskAt(1, 6), 0);
        CHECK.due("after the end", x.step(0), STATE);
    }

    private static void sourceSetsAside() {
        RegionRestarts x = Jobs.chain(true, 20, Jobs.SOURCE, Jobs.ONLY, Jobs.SINK);
        x.poison(0, 12);
        x.rule(9, true);
        int threw = 0;
        for (int i = 0; i < 60; i++) {
            threw += x.step(0) == THREW ? 1 : 0;
            x.tick(16);
        }
        CHECK.due("one row: four throws", threw, 4);
        CHECK.due("row 4", x.aside(0, 0), 4);
        CHECK.due("only one has that value", x.aside(0, 1), NONE);
        CHECK.due("rows given", x.channelAt(0, 4), 19);
        CHECK.due("row 4 was not", x.row(0, 4), 15);
        CHECK.due("the source is done", x.taskAt(0, 7), 1);
    }

    /** A row costs four fails and the bound is at most 9: no task sets more than two aside. */
    private static void twoAside() {
        RegionRestarts x = new RegionRestarts();
        x.task(0, 4, 0);
        x.task(5, 0, 0);
        x.channel(0, 1, true);
        x.channel(0, 1, true);
        x.poison(1, 9);
        x.rule(9, true);
        x.step(0);
        for (int i = 0; i < 30; i++) {
            x.step(1);
            x.tick(16);
        }
        CHECK.due("fails", x.taskAt(1, 5), 8);
        CHECK.due("the first that is set aside", x.aside(1, 0), 3);
        CHECK.due("the second, numbered over both channels", x.aside(1, 1), 7);
        CHECK.due("rows of out", x.taskAt(1, 8), 6);
        CHECK.due("place", x.taskAt(1, 2), 8);
    }

    private static void asideDoesNothingElse() {
        RegionRestarts x = Jobs.chain(true, 3, Jobs.SOURCE, Jobs.DRAW, Jobs.SINK);
        x.poison(1, 0);
        x.poison(2, 13);
        x.rule(9, true);
        x.step(0);
        for (int i = 0; i < 4; i++) {
            x.step(1);
            x.tick(16);
        }
        CHECK.due("row 0 is set aside", x.aside(1, 0), 0);
        CHECK.due("three are taken", x.step(1), 3);
        CHECK.due("it is seen", x.channelAt(0, 8), 3);
        CHECK.due("nothing was drawn for row 0", x.row(1, 0), 3 + 7);
        CHECK.due("nor given", x.channelAt(1, 4), 2);
        for (int i = 0; i < 6; i++) {
            x.step(2);
            x.tick(16);
        }
        CHECK.due("no row has the value 13", x.taskAt(2, 9), 0);
        CHECK.due("rows of out", x.taskAt(2, 8), 2);

        RegionRestarts y = Jobs.chain(true, 3, Jobs.SOURCE, Jobs.SINK);
        y.poison(1, 3);
        y.rule(9, true);
        y.step(0);
        int threw = 0;
        for (int i = 0; i < 9; i++) {
            threw += y.step(1) == THREW ? 1 : 0;
            y.tick(16);
        }
        CHECK.due("throws", threw, 4);
        CHECK.due("the sink took all", y.taskAt(1, 2), 3);
        CHECK.due("and put out two", y.taskAt(1, 8), 2);
        CHECK.due("the second of them", y.out(1, 1), 6);
        y.rule(9, false);
        y.fail(1);
        y.tick(16);
        CHECK.due("a row stays aside", y.step(1), 3);
        CHECK.due("two again", y.taskAt(1, 8), 2);
    }

    private static void poisonOfEverySort() {
        for (int sort = 0; sort <= 5; sort++) {
            RegionRestarts x = new RegionRestarts();
            x.task(0, 3, 0);
            x.task(sort, 3, 0);
            if (sort != 0) {
                x.channel(0, 1, true);
            }
            x.poison(1, sort == 0 ? 8 : 6);
            x.step(0);
            CHECK.due("sort " + sort, x.step(1), THREW);
        }
    }

    private static void poisonBeyondTheStep() {
        RegionRestarts x = Jobs.chain(true, 9, Jobs.SOURCE, Jobs.ADD, Jobs.SINK);
        x.poison(0, 4);
        CHECK.due("row 8 is not of the first step", x.step(0), 8);
        CHECK.due("it is of the second", x.step(0), THREW);
    }

    /** Row 64 of the taker has its poison, but the channel behind it has no room for that row. */
    private static void poisonBeyondTheRoom() {
        RegionRestarts x = new RegionRestarts();
        x.task(0, 3, 0);
        x.task(0, 20, 0);
        x.task(0, 2, 0);
        x.task(1, -20, 0);
        x.task(1, 0, 0);
        x.task(5, 0, 0);
        x.channel(0, 4, true);
        for (int i = 0; i < 3; i++) {
            x.channel(1, 4, true);
        }
        x.channel(2, 3, true);
        x.channel(3, 4, true);
        x.channel(4, 5, true);
        x.poison(4, -7);
        x.step(0);
        CHECK.due("three", x.step(4), 3);
        Jobs.stepTimes(x, 1, 3);
        x.step(2);
        x.step(3);
        CHECK.due("the poison is there", x.row(5, 1), -7);
        Jobs.stepTimes(x, 4, 7);
        CHECK.due("59 so far", x.taskAt(4, 2), 59);
        CHECK.due("as many as there is room for", x.step(4), 5);
        CHECK.due("it can take no more", x.step(4), 0);
    }

    /** 1001 tells that there is no poison; a row may have that value all the same. */
    private static void noPoisonIsNoValue() {
        RegionRestarts x = new RegionRestarts();
        int[] sorts = {0, 3, 3, 1, 1, 1, 1, 5};
        int[] numbers = {20, 0, 0, 20, 20, 20, 1, 0};
        for (int t = 0; t < sorts.length; t++) {
            x.task(sorts[t], numbers[t], 0);
            x.channel(t - 1, t, true);
        }
        Jobs.stepAll(x);
        Jobs.stepAll(x);
        CHECK.due("a row", x.row(6, 14), 1001);
        CHECK.due("is taken", x.out(7, 14), 1001);
    }

    private static void keptRowsAreNotDoubled() {
        RegionRestarts x = Jobs.chain(true, 6, Jobs.SOURCE, Jobs.ADD, Jobs.SINK);
        Jobs.stepAll(x);
        x.fail(1);
        CHECK.due("rows are kept", x.channelAt(1, 3), 6);
        CHECK.due("none is given again so far", x.channelAt(1, 4), 0);
        x.tick(1);
        CHECK.due("rows once more", x.step(1), 6);
        CHECK.due("given again", x.channelAt(1, 4), 6);
        CHECK.due("and not put behind", x.channelAt(1, 3), 6);
        CHECK.due("the sink has no more", x.step(2), 0);
        CHECK.due("rows of out", x.taskAt(2, 8), 6);
    }

    private static void refused() {
        RegionRestarts x = Jobs.chain(true, 6, Jobs.SOURCE, Jobs.SINK);
        CHECK.due("task -1", x.step(-1), UNKNOWN);
        CHECK.due("task 2", x.step(2), UNKNOWN);
        x.fail(0);
        CHECK.due("it waits", x.step(0), STATE);
        CHECK.due("the other one does not", x.step(1), 0);
        x.tick(1);
        CHECK.due("it waits no more", x.step(0), 6);
        x.rule(1, false);
        x.fail(0);
        CHECK.due("ended", x.told(6), 1);
        CHECK.due("after the end", x.step(1), STATE);
        CHECK.due("unknown ahead of state", x.step(2), UNKNOWN);
    }
}
