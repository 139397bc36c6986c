/** Promise 6 and the first two parts of "Terms": where a step ends, and where values wrap. */
public final class BoundsOfStepTest {
    private static final int STATE = -3, THREW = -5, NONE = -9;
    private static final int LEAST = Integer.MIN_VALUE, MOST = Integer.MAX_VALUE;
    private static final Check CHECK = new Check();

    public static void main(String[] args) {
        valuesOfEverySource();
        valuesOfTheLastSource();
        valuesWrap();
        sumsWrap();
        drawnValuesWrap();
        firstDrawn();
        sumOfNoRows();
        doneWithNothing();
        firstChannelWithNothing();
        widthOfEight();
        sixtyFourGiven();
        sixtyFourOfTheFirstChannel();
        sixtyFourGivenAgain();
        sixtyFourGivenByAnOnly();
        sixtyFourWithPoison();
        outOf200();
        outOf200WithPoison();
        asideTakesNoRoom();
        poisonAtEveryRow();
        widthIsHalved();
        widthOfOneWithAside();
        asideAtTheLastRow();
        asideInTheThrowThatEnds();
        asideIsOfOneTask();
        refusedWhileItWaits();
        refusedAfterTheEnd();
        CHECK.end();
    }

    /** "row k has the value (5 t + 3 k) mod 20", up to the last task that a channel can come from. */
    private static void valuesOfEverySource() {
        RegionRestarts x = new RegionRestarts();
        for (int t = 0; t < 15; t++) {
            x.task(0, 20, 0);
        }
        x.task(5, 0, 0);
        for (int t = 0; t < 15; t++) {
            x.channel(t, 15, true);
        }
        for (int t = 0; t < 15; t++) {
            Jobs.stepTimes(x, t, 3);
            for (int k = 0; k < 20; k++) {
                CHECK.due("source " + t + ", row " + k, x.row(t, k), (5 * t + 3 * k) % 20);
            }
        }
    }

    /** No channel can come from task 15, but its rows can be its poison: row 19 has (75 + 57) mod 20. */
    private static void valuesOfTheLastSource() {
        RegionRestarts x = new RegionRestarts();
        for (int t = 0; t < 16; t++) {
            x.task(0, 20, 0);
        }
        x.poison(15, 12);
        CHECK.due("rows 0 to 7", x.step(15), 8);
        CHECK.due("rows 8 to 15", x.step(15), 8);
        CHECK.due("rows 16 to 19", x.step(15), THREW);
    }

    /**
     * Tasks 1 to 12 are chosen so that row 59 of the last of them is the greatest value that there
     * is; the tasks from 13 on, of these sorts and numbers, take its rows one after another.
     */
    private static RegionRestarts behindTheGreatest(int[] sorts, int[] numbers) {
        RegionRestarts x = new RegionRestarts();
        int[] adds = {18, -4, 15, 4, 2, -7};
        x.task(0, 20, 0);
        for (int add : adds) {
            x.task(1, add, 0);
            x.task(3, 0, 0);
        }
        for (int i = 0; i < sorts.length; i++) {
            x.task(sorts[i], numbers[i], 0);
        }
        x.channel(0, 1, true);
        x.channel(0, 1, true);
        for (int t = 0; t < 12 + sorts.length; t++) {
            x.channel(t, t + 1, true);
        }
        Jobs.stepTimes(x, 0, 3);
        for (int t = 1; t <= 12 + sorts.length; t++) {
            Jobs.stepTimes(x, t, 8);
        }
        CHECK.due("the greatest value", x.row(14, 59), MOST);
        return x;
    }

    /** "Values .. are of 32 bits, wrapping": over the top, and back below the least. */
    private static void valuesWrap() {
        RegionRestarts x = behindTheGreatest(new int[] {1, 1, 5}, new int[] {1, -1, 0});
        CHECK.due("one more", x.row(15, 59), LEAST);
        CHECK.due("and one less", x.row(16, 59), MOST);
        CHECK.due("and out", x.out(15, 59), MOST);
        RegionRestarts y = behindTheGreatest(new int[] {1, 1, 5}, new int[] {20, -20, 0});
        CHECK.due("20 more", y.row(15, 59), LEAST + 19);
        CHECK.due("and 20 less", y.row(16, 59), MOST);
        RegionRestarts z = behindTheGreatest(new int[] {1, 2, 5}, new int[] {1, 4, 0});
        CHECK.due("the least is a multiple of 4", z.row(16, z.channelAt(16, 3) - 1), LEAST);
    }

    /** "SUMS are of 32 bits, wrapping". */
    private static void sumsWrap() {
        RegionRestarts x = behindTheGreatest(new int[] {3, 5}, new int[] {0, 0});
        long sum = 0;
        for (int k = 0; k < 60; k++) {
            sum += x.row(14, k);
            CHECK.due("sum " + k, x.row(15, k), (int) sum);
        }
        CHECK.yes("it is beyond 32 bits", sum > MOST);
        CHECK.due("the sum", x.taskAt(13, 3), (int) sum);
    }

    private static void drawnValuesWrap() {
        RegionRestarts x = behindTheGreatest(new int[] {4, 5}, new int[] {0, 0});
        int drawn = Jobs.drawn(60);
        CHECK.yes("it is beyond 32 bits", drawn > 0);
        CHECK.due("the greatest and what is drawn", x.row(15, 59), LEAST + drawn - 1);
    }

    /** "DRAWN .. 1 at first", and what a product of more than 32 bits comes to. */
    private static void firstDrawn() {
        RegionRestarts x = Jobs.chain(true, 4, Jobs.SOURCE, Jobs.DRAW, Jobs.SINK);
        Jobs.stepAll(x);
        int[] drawn = {16807, 282475249, 1622650073, 984943658};
        for (int k = 0; k < 4; k++) {
            CHECK.due("drawn " + k, x.out(2, k), 3 * k + drawn[k] % 10);
        }
    }

    /** "its SUM is x more, at first 0". */
    private static void sumOfNoRows() {
        RegionRestarts x = Jobs.chain(true, 1, Jobs.SOURCE, Jobs.TOTAL, Jobs.SINK);
        CHECK.due("no rows", x.step(1), 0);
        CHECK.due("its sum", x.taskAt(1, 3), 0);
        CHECK.due("it gives none", x.channelAt(1, 4), 0);
        x.step(0);
        x.step(1);
        CHECK.due("of the row 0", x.row(1, 0), 0);
    }

    /** A SOURCE of no rows is DONE, its channel OVER, and so on; a task without channels to it too. */
    private static void doneWithNothing() {
        RegionRestarts x = Jobs.chain(false, 0, Jobs.SOURCE, Jobs.DRAW, Jobs.SINK);
        x.task(3, 0, 0);
        for (int t = 0; t < 4; t++) {
            CHECK.due("done: " + t, x.taskAt(t, 7), 1);
            CHECK.due("takes: " + t, x.step(t), 0);
        }
        CHECK.due("over", x.channelAt(0, 7), 1);
        CHECK.due("over", x.channelAt(1, 7), 1);
        CHECK.due("all are done", x.told(8), 4);
        CHECK.due("steps were done", x.told(2), 4);
    }

    /** "all of the first one, when that is OVER those of the next one": also if it had none. */
    private static void firstChannelWithNothing() {
        for (int rows = 0; rows <= 1; rows++) {
            RegionRestarts x = new RegionRestarts();
            x.task(0, rows, 0);
            x.task(0, 2, 0);
            x.task(5, 0, 0);
            x.channel(0, 2, true);
            x.channel(1, 2, true);
            x.step(1);
            CHECK.due("the first one has " + rows + " to come", x.step(2), rows == 0 ? 2 : 0);
        }
    }

    /** "takes rows, one by one, up to its WIDTH (8 at first), as long as there are any". */
    private static void widthOfEight() {
        for (int rows = 0; rows <= 17; rows++) {
            RegionRestarts x = Jobs.chain(true, rows, Jobs.SOURCE, Jobs.SINK);
            CHECK.due("width", x.taskAt(0, 4), 8);
            CHECK.due("first of " + rows, x.step(0), Math.min(8, rows));
            CHECK.due("second of " + rows, x.step(0), Math.max(0, Math.min(8, rows - 8)));
            CHECK.due("third of " + rows, x.step(0), Math.max(0, rows - 16));
            CHECK.due("taken, first of " + rows, x.step(1), Math.min(8, rows));
            CHECK.due("taken, second of " + rows, x.step(1), Math.max(0, Math.min(8, rows - 8)));
            CHECK.due("taken, third of " + rows, x.step(1), Math.max(0, rows - 16));
            CHECK.due("none is left of " + rows, x.step(1), 0);
        }
    }

    /** Task 6 gave 63 rows to two channels; five more are there for it: 20 23 26 29 32. */
    private static RegionRestarts gave63(int poison) {
        RegionRestarts x = new RegionRestarts();
        for (int rows : new int[] {20, 20, 20, 3, 5}) {
            x.task(0, rows, 0);
        }
        x.task(1, 20, 0);
        x.task(1, 0, 1);
        x.task(5, 0, 2);
        for (int t = 0; t < 4; t++) {
            x.channel(t, 6, true);
        }
        x.channel(4, 5, true);
        x.channel(5, 6, true);
        x.channel(6, 7, true);
        x.channel(6, 7, true);
        x.poison(6, poison);
        for (int t = 0; t < 4; t++) {
            Jobs.stepTimes(x, t, 3);
        }
        Jobs.stepTimes(x, 6, 9);
        CHECK.due("it gave", x.channelAt(6, 4), 63);
        x.step(4);
        x.step(5);
        return x;
    }

    /** "and it gave fewer than 64 to each of its channels". */
    private static void sixtyFourGiven() {
        RegionRestarts x = gave63(1000);
        CHECK.due("one of five", x.step(6), 1);
        CHECK.due("it gave 64", x.channelAt(6, 4), 64);
        CHECK.due("to each", x.channelAt(7, 4), 64);
        CHECK.due("none of four", x.step(6), 0);
        CHECK.due("it is not done", x.taskAt(6, 7), 0);
        CHECK.due("place", x.taskAt(6, 2), 64);
        CHECK.due("row 63", x.row(6, 63), 20);
        CHECK.due("no row 64", x.row(6, 64), NONE);
        Jobs.stepTimes(x, 7, 16);
        CHECK.due("all are taken", x.channelAt(6, 5), 64);
        CHECK.due("that makes no room", x.step(6), 0);
    }

    /** Channel 0 is the only one of its task, channel 39 the last that the task takes from. */
    private static void sixtyFourOfTheFirstChannel() {
        RegionRestarts x = new RegionRestarts();
        x.task(0, 2, 0);
        x.task(1, 0, 0);
        x.task(5, 0, 0);
        x.channel(1, 2, false);
        for (int c = 1; c < 40; c++) {
            x.channel(0, 1, true);
        }
        x.step(0);
        Jobs.stepTimes(x, 1, 9);
        CHECK.due("it gave", x.channelAt(0, 4), 64);
        CHECK.due("taken of the last one with rows for it", x.channelAt(32, 5), 2);
        CHECK.due("and of the next", x.channelAt(33, 5), 0);
        CHECK.due("eight are out", x.step(2), 8);

        RegionRestarts y = new RegionRestarts();
        y.task(0, 2, 0);
        y.task(5, 0, 0);
        for (int c = 0; c < 40; c++) {
            y.channel(0, 1, true);
        }
        y.step(0);
        Jobs.stepTimes(y, 1, 10);
        CHECK.due("taken of channel 39", y.channelAt(39, 5), 2);
        CHECK.due("done", y.taskAt(1, 7), 1);
        CHECK.due("no more", y.step(1), 0);
    }

    /** What is given again is counted from THE MARK on, and a full channel is not made longer. */
    private static void sixtyFourGivenAgain() {
        RegionRestarts x = gave63(1000);
        x.step(6);
        CHECK.due("begun again", x.fail(6), 1);
        x.tick(1);
        CHECK.due("rows are there", x.channelAt(6, 3), 64);
        CHECK.due("none is given", x.channelAt(6, 4), 0);
        for (int i = 0; i < 8; i++) {
            CHECK.due("again", x.step(6), 8);
        }
        CHECK.due("no more", x.step(6), 0);
        CHECK.due("rows", x.channelAt(6, 3), 64);
        x.mark();
        x.fail(6);
        x.tick(2);
        CHECK.due("none behind a mark at 64", x.step(6), 0);
    }

    /** Not even a row that it would not give is taken when 64 are given. */
    private static void sixtyFourGivenByAnOnly() {
        RegionRestarts x = new RegionRestarts();
        x.task(0, 20, 0);
        x.task(2, 5, 0);
        x.task(1, 1, 0);
        x.task(2, 5, 0);
        x.task(5, 0, 0);
        x.channel(0, 1, true);
        x.channel(0, 2, true);
        for (int i = 0; i < 16; i++) {
            x.channel(1, 3, true);
        }
        x.channel(2, 3, true);
        x.channel(3, 4, true);
        for (int t = 0; t < 3; t++) {
            Jobs.stepTimes(x, t, 3);
        }
        Jobs.stepTimes(x, 3, 8);
        CHECK.due("it gave", x.channelAt(19, 4), 64);
        CHECK.due("a row that is no multiple", x.row(18, 0), 1);
        CHECK.due("is not taken", x.step(3), 0);
        CHECK.due("place", x.taskAt(3, 2), 64);
    }

    /** "If one of those that it would take has the value": the 64th would be taken, the 65th not. */
    private static void sixtyFourWithPoison() {
        CHECK.due("the 64th", gave63(20).step(6), THREW);
        RegionRestarts x = gave63(23);
        CHECK.due("the 65th", x.step(6), 1);
        CHECK.due("it stays beyond", x.step(6), 0);
    }

    /** Task 12 put out 199 rows; five more are there for it: 30 33 36 39 22. */
    private static RegionRestarts putOut199(int poison) {
        RegionRestarts x = new RegionRestarts();
        for (int t = 0; t < 10; t++) {
            x.task(0, t < 9 ? 20 : 19, 0);
        }
        x.task(0, 5, 0);
        x.task(1, 20, 0);
        x.task(5, 0, 0);
        for (int t = 0; t < 10; t++) {
            x.channel(t, 12, true);
        }
        x.channel(10, 11, true);
        x.channel(11, 12, true);
        x.poison(12, poison);
        for (int t = 0; t < 10; t++) {
            Jobs.stepTimes(x, t, 3);
        }
        Jobs.stepTimes(x, 12, 26);
        CHECK.due("rows of out", x.taskAt(12, 8), 199);
        x.step(10);
        x.step(11);
        return x;
    }

    /** "(of a SINK: OUT has fewer than 200)". */
    private static void outOf200() {
        RegionRestarts x = putOut199(1000);
        CHECK.due("row 198", x.out(12, 198), (45 + 54) % 20);
        CHECK.due("no row 199", x.out(12, 199), NONE);
        CHECK.due("one of five", x.step(12), 1);
        CHECK.due("rows of out", x.taskAt(12, 8), 200);
        CHECK.due("row 199", x.out(12, 199), 30);
        CHECK.due("no row 200", x.out(12, 200), NONE);
        CHECK.due("none of four", x.step(12), 0);
        CHECK.due("it is not done", x.taskAt(12, 7), 0);
        CHECK.due("place", x.taskAt(12, 2), 200);
        x.fail(12);
        CHECK.due("none is out", x.taskAt(12, 8), 0);
        x.tick(1);
        CHECK.due("there is room again", x.step(12), 8);
    }

    private static void outOf200WithPoison() {
        CHECK.due("the 200th", putOut199(30).step(12), THREW);
        RegionRestarts x = putOut199(33);
        CHECK.due("the 201st", x.step(12), 1);
        CHECK.due("it stays beyond", x.step(12), 0);
    }

    /** The row that would be the last one is set ASIDE: it is taken, and the next one too. */
    private static void asideTakesNoRoom() {
        lastRowAside(gave63(20), 6, 63);
        lastRowAside(putOut199(30), 12, 199);
    }

    private static void lastRowAside(RegionRestarts x, int task, int number) {
        x.rule(9, true);
        x.mark();
        for (int i = 0; i < 4; i++) {
            CHECK.due("it throws", x.step(task), THREW);
            x.tick(16);
        }
        CHECK.due("set aside", x.aside(task, 0), number);
        CHECK.due("that, and one more", x.step(task), 2);
        CHECK.due("place", x.taskAt(task, 2), number + 2);
        CHECK.due("no more", x.step(task), 0);
    }

    /** The first and the last row of a step throw, the first one beyond it does not. */
    private static void poisonAtEveryRow() {
        for (int k = 0; k < 20; k++) {
            RegionRestarts x = Jobs.chain(true, 20, Jobs.SOURCE, Jobs.SINK);
            x.poison(0, 3 * k % 20);
            for (int i = 0; i < k / 8; i++) {
                CHECK.due("row " + k + ", step " + i, x.step(0), 8);
            }
            CHECK.due("row " + k, x.step(0), THREW);
        }
    }

    /** "a WIDTH above 1 is halved (cut)": and one of 1 stays, if nothing is set ASIDE. */
    private static void widthIsHalved() {
        RegionRestarts x = Jobs.chain(true, 20, Jobs.SOURCE, Jobs.SINK);
        x.poison(0, 0);
        x.rule(9, false);
        for (int width : new int[] {4, 2, 1, 1, 1}) {
            CHECK.due("it throws", x.step(0), THREW);
            CHECK.due("width", x.taskAt(0, 4), width);
            CHECK.due("none is set aside", x.taskAt(0, 9), 0);
            x.tick(16);
        }
        RegionRestarts y = Jobs.chain(true, 20, Jobs.SOURCE, Jobs.SINK);
        y.poison(1, 19);
        for (int i = 0; i < 3; i++) {
            y.step(0);
        }
        CHECK.due("row 13 is not of eight", y.step(1), 8);
        CHECK.due("but of the next eight", y.step(1), THREW);
        y.tick(1);
        for (int width : new int[] {4, 4, 4}) {
            CHECK.due("four", y.step(1), width);
        }
        CHECK.due("of the fourth four", y.step(1), THREW);
        CHECK.due("width", y.taskAt(1, 4), 2);
    }

    /** "with 1, if the job sets ASIDE, this row's number is set ASIDE .., and its WIDTH is 8 again". */
    private static void widthOfOneWithAside() {
        RegionRestarts x = Jobs.chain(true, 20, Jobs.SOURCE, Jobs.SINK);
        x.poison(0, 0);
        x.rule(9, true);
        int[] widths = {4, 2, 1, 8};
        for (int i = 0; i < 4; i++) {
            CHECK.due("it throws", x.step(0), THREW);
            CHECK.due("width", x.taskAt(0, 4), widths[i]);
            CHECK.due("set aside", x.taskAt(0, 9), i < 3 ? 0 : 1);
            x.tick(16);
        }
        CHECK.due("row 0", x.aside(0, 0), 0);
        CHECK.due("eight are taken", x.step(0), 8);
        CHECK.due("seven are given", x.channelAt(0, 4), 7);
    }

    /** A row that is set aside is counted by PLACE and by DONE, also if it is the last one. */
    private static void asideAtTheLastRow() {
        RegionRestarts x = Jobs.chain(true, 1, Jobs.SOURCE, Jobs.SINK);
        x.poison(1, 0);
        x.rule(9, true);
        x.step(0);
        for (int i = 0; i < 4; i++) {
            CHECK.due("it throws", x.step(1), THREW);
            CHECK.due("not done", x.taskAt(1, 7), 0);
            x.tick(16);
        }
        CHECK.due("it is taken", x.step(1), 1);
        CHECK.due("nothing is out", x.taskAt(1, 8), 0);
        CHECK.due("none", x.out(1, 0), NONE);
        CHECK.due("place", x.taskAt(1, 2), 1);
        CHECK.due("done", x.taskAt(1, 7), 1);
        CHECK.due("over", x.channelAt(0, 7), 1);
    }

    /** "Then it FAILS": the row is set aside also if the job ends by that. */
    private static void asideInTheThrowThatEnds() {
        RegionRestarts x = Jobs.chain(true, 5, Jobs.SOURCE, Jobs.SINK);
        x.poison(0, 0);
        x.rule(3, true);
        for (int i = 0; i < 4; i++) {
            CHECK.due("it throws", x.step(0), THREW);
            x.tick(16);
        }
        CHECK.due("ended", x.told(6), 1);
        CHECK.due("row 0 is set aside", x.aside(0, 0), 0);
        CHECK.due("width", x.taskAt(0, 4), 8);
        CHECK.due("no step was done", x.told(2), 0);
    }

    private static void asideIsOfOneTask() {
        RegionRestarts x = new RegionRestarts();
        x.task(0, 1, 0);
        x.task(5, 0, 0);
        x.task(5, 0, 0);
        x.channel(0, 1, true);
        x.channel(0, 2, true);
        x.poison(1, 0);
        x.poison(2, 0);
        x.rule(9, true);
        x.step(0);
        for (int i = 0; i < 4; i++) {
            x.step(1);
            x.tick(16);
        }
        CHECK.due("set aside", x.step(1), 1);
        CHECK.due("not for the other task", x.step(2), THREW);
    }

    /** "STATE: it waits": up to the last tick, and no longer. */
    private static void refusedWhileItWaits() {
        for (int fails = 1; fails <= 6; fails++) {
            int times = fails;
            int wait = Math.min(16, 1 << (fails - 1));
            Twins twins = new Twins(CHECK, fails + " fails", () -> {
                RegionRestarts x = Jobs.chain(true, 5, Jobs.SOURCE, Jobs.SINK);
                x.rule(9, false);
                x.poison(0, 0);
                for (int i = 0; i < times; i++) {
                    x.fail(0);
                }
                return x;
            });
            twins.refused("at once", STATE, x -> x.step(0));
            for (int i = 1; i < wait; i++) {
                twins.both("tick", x -> x.tick(1));
                twins.refused("after tick " + i, STATE, x -> x.step(0));
            }
            twins.both("the last tick", x -> x.tick(1));
            twins.due("it throws", THREW, x -> x.step(0));
            twins.end();
        }
    }

    /** "STATE: .. the job has ENDED": of every task, waiting or not, throwing or not. */
    private static void refusedAfterTheEnd() {
        Twins twins = new Twins(CHECK, "after the end", () -> {
            RegionRestarts x = Jobs.chain(true, 5, Jobs.SOURCE, Jobs.ADD, Jobs.SINK);
            x.rule(1, true);
            x.poison(1, 0);
            x.step(0);
            x.fail(2);
            x.fail(2);
            CHECK.due("ended", x.told(6), 1);
            return x;
        });
        for (int t = 0; t < 3; t++) {
            int task = t;
            twins.refused("step " + t, STATE, x -> x.step(task));
        }
        twins.both("tick", x -> x.tick(100));
        twins.refused("a step later", STATE, x -> x.step(2));
        twins.end();
    }
}
