/** Promises 7 and 12 and the third part of "Terms": the BOUND, causes, waits, and where regions end. */
public final class BoundsOfFailTest {
    private static final int STATE = -3, THREW = -5, NONE = -9;
    private static final Check CHECK = new Check();

    public static void main(String[] args) {
        for (int bound = 1; bound <= 9; bound++) {
            asManyAsTheBound(bound);
            oneMoreThanTheBound(bound);
        }
        throwAboveTheBound();
        boundBelowTheFails();
        sixtyFourCauses();
        causesOfEveryKindBeyond64();
        nodeAcross64Causes();
        waitsDouble();
        longerWaitsStay();
        failAheadOfTheFirstStep();
        failWithNothingThere();
        failOfDoneTasks();
        refusedAfterTheEnd();
        regionOfOne();
        regionOfAll();
        regionByOneLostRow();
        regionByOneSeenRow();
        regionByOneRowBeyondWhatWasTaken();
        regionByADrawWithoutRows();
        regionsAfterTheEnd();
        CHECK.end();
    }

    /** All but FAILS and causes, which alone a fail that ends the job may change. */
    private static String besidesFails(RegionRestarts x) {
        StringBuilder text = new StringBuilder();
        for (int t = 0; t < x.told(0); t++) {
            for (int what = 0; what <= 9; what++) {
                text.append(what == 5 ? 0 : x.taskAt(t, what)).append(' ');
            }
        }
        for (int c = 0; c < x.told(1); c++) {
            for (int what = 0; what <= 8; what++) {
                text.append(x.channelAt(c, what)).append(' ');
            }
        }
        for (int what : new int[] {2, 3, 4, 7, 8, 9, 10}) {
            text.append(x.told(what)).append(' ');
        }
        return text.toString();
    }

    private static RegionRestarts failed(int bound, int times) {
        RegionRestarts x = Jobs.chain(true, 9, Jobs.SOURCE, Jobs.TOTAL, Jobs.SINK);
        x.rule(bound, false);
        for (int i = 0; i < times; i++) {
            CHECK.due("bound " + bound + ", fail " + (i + 1), x.fail(1), 1);
            x.tick(16);
        }
        Jobs.stepAll(x);
        return x;
    }

    /** "If they are more than the BOUND": as many are not. */
    private static void asManyAsTheBound(int bound) {
        RegionRestarts x = failed(bound, bound);
        CHECK.due("not ended", x.told(6), 0);
        CHECK.due("fails", x.taskAt(1, 5), bound);
        CHECK.due("steps go on", x.taskAt(1, 2), 8);
        CHECK.due("other tasks have their own", x.fail(0), 1);
    }

    /** "the job has ENDED: nothing else is done." */
    private static void oneMoreThanTheBound(int bound) {
        RegionRestarts x = failed(bound, bound);
        String before = besidesFails(x);
        CHECK.due("one more", x.fail(1), 0);
        CHECK.due("ended", x.told(6), 1);
        CHECK.due("fails", x.taskAt(1, 5), bound + 1);
        CHECK.due("a cause", x.told(5), bound + 1);
        CHECK.due("its kind", x.cause(bound, 2), 1);
        CHECK.same("nothing else", besidesFails(x), before);
    }

    /** A step that throws answers THREW also when the job ends by it. */
    private static void throwAboveTheBound() {
        RegionRestarts x = Jobs.chain(true, 3, Jobs.SOURCE, Jobs.SINK);
        x.rule(1, false);
        x.poison(0, 0);
        CHECK.due("one", x.step(0), THREW);
        CHECK.due("not ended", x.told(6), 0);
        x.tick(1);
        CHECK.due("two", x.step(0), THREW);
        CHECK.due("ended", x.told(6), 1);
        CHECK.due("times that a task began again", x.told(10), 1);
        CHECK.due("the width is halved", x.taskAt(0, 4), 2);
    }

    /** The BOUND is looked at when a task fails, and at no other time. */
    private static void boundBelowTheFails() {
        RegionRestarts x = failed(5, 5);
        CHECK.due("below", x.rule(1, false), 5);
        CHECK.due("not ended", x.told(6), 0);
        CHECK.due("a step", x.step(0), 1);
        CHECK.due("a task with few fails", x.fail(0), 1);
        CHECK.due("above in time", x.rule(6, false), 1);
        CHECK.due("the sixth", x.fail(1), 1);
        CHECK.due("the seventh", x.fail(1), 0);
        x.rule(9, false);
        CHECK.due("what has ended stays so", x.told(6), 1);
    }

    private static RegionRestarts withCauses(int count) {
        RegionRestarts x = new RegionRestarts();
        x.rule(9, false);
        for (int t = 0; t < 14; t++) {
            x.task(5, 0, t == 0 ? 0 : t < 3 ? 1 : 2);
        }
        x.task(0, 5, 3);
        x.task(5, 0, 3);
        x.channel(14, 15, true);
        x.poison(14, 2);
        for (int i = 0; i < count; i++) {
            x.fail(i % 14);
            x.tick(1);
        }
        return x;
    }

    /** "a CAUSE is put down (64 at most; later ones are not)". */
    private static void sixtyFourCauses() {
        for (int count = 62; count <= 66; count++) {
            RegionRestarts x = withCauses(count);
            CHECK.due(count + " fails: causes", x.told(5), Math.min(64, count));
            CHECK.due(count + " fails: cause 63", x.cause(63, 1), count < 64 ? NONE : 63);
            CHECK.due(count + " fails: cause 64", x.cause(64, 1), NONE);
            CHECK.due(count + " fails: times", x.told(10), count);
            CHECK.due(count + " fails: fails of the last", x.taskAt((count - 1) % 14, 5), (count - 1) / 14 + 1);
        }
    }

    private static void causesOfEveryKindBeyond64() {
        RegionRestarts x = withCauses(64);
        CHECK.due("it throws", x.step(14), THREW);
        CHECK.due("fails", x.taskAt(14, 5), 1);
        CHECK.due("told", x.fail(14), 1);
        CHECK.due("fails", x.taskAt(14, 5), 2);
        x.tick(16);
        CHECK.due("rows ahead of the poison", x.step(14), 4);
        CHECK.due("lost", x.lose(0), 1);
        CHECK.due("fails", x.taskAt(14, 5), 3);
        CHECK.due("the node goes", x.gone(3), 2);
        CHECK.due("fails", x.taskAt(14, 5), 4);
        CHECK.due("causes", x.told(5), 64);
        CHECK.due("the last one is that of the last fail", x.cause(63, 0), 63 % 14);
        CHECK.due("of its kind", x.cause(63, 2), 1);
    }

    /** Of two tasks that fail as one the first has cause 63, the other one has none; both FAIL. */
    private static void nodeAcross64Causes() {
        RegionRestarts x = withCauses(63);
        CHECK.due("one task", x.gone(0), 1);
        CHECK.due("causes", x.told(5), 64);
        RegionRestarts y = withCauses(63);
        CHECK.due("two tasks", y.gone(1), 2);
        CHECK.due("causes", y.told(5), 64);
        CHECK.due("the first one", y.cause(63, 0), 1);
        CHECK.due("its kind", y.cause(63, 2), 2);
        CHECK.due("none of the second", y.cause(64, 0), NONE);
        CHECK.due("fails of the first", y.taskAt(1, 5), 63 / 14 + 2);
        CHECK.due("fails of the second", y.taskAt(2, 5), 63 / 14 + 2);
    }

    /** "the lesser of 16 and 2 to the FAILS less 1". */
    private static void waitsDouble() {
        RegionRestarts x = Jobs.chain(true, 3, Jobs.SOURCE, Jobs.SINK);
        x.rule(9, false);
        x.tick(100);
        int[] due = {1, 2, 4, 8, 16, 16, 16, 16, 16};
        for (int i = 0; i < 9; i++) {
            x.fail(0);
            CHECK.due("after fail " + (i + 1), x.taskAt(0, 6), due[i]);
            CHECK.due("tasks that wait", x.told(7), 1);
            x.tick(due[i]);
            CHECK.due("no longer", x.taskAt(0, 6), 0);
            CHECK.due("none waits", x.told(7), 0);
        }
    }

    /** "(those that wait longer, so long)": one more, as much, one less than the new wait of 2. */
    private static void longerWaitsStay() {
        for (int left = 1; left <= 4; left++) {
            RegionRestarts x = Jobs.chain(false, 3, Jobs.SOURCE, Jobs.SINK);
            x.rule(9, false);
            x.fail(1);
            for (int i = 0; i < 3; i++) {
                x.fail(0);
            }
            for (int i = left; i < 4; i++) {
                x.tick(1);
            }
            CHECK.due("left", x.taskAt(0, 6), left);
            CHECK.due("both begin again", x.fail(1), 2);
            CHECK.due("the failed one", x.taskAt(1, 6), Math.max(2, left));
            CHECK.due("the other one", x.taskAt(0, 6), Math.max(2, left));
        }
    }

    /** "THE MARK: .. at first how all is ahead of the first step." */
    private static void failAheadOfTheFirstStep() {
        RegionRestarts x = Jobs.chain(true, 9, Jobs.SOURCE, Jobs.TOTAL, Jobs.SINK);
        for (int t = 0; t < 3; t++) {
            CHECK.due("fail " + t, x.fail(t), 1);
        }
        x.tick(1);
        Jobs.stepAll(x);
        for (int t = 0; t < 3; t++) {
            CHECK.due("fail " + t, x.fail(t), 1);
            CHECK.due("place", x.taskAt(t, 2), 0);
            CHECK.due("sum", x.taskAt(t, 3), 0);
            CHECK.due("out", x.taskAt(t, 8), 0);
        }
    }

    private static void failWithNothingThere() {
        RegionRestarts x = new RegionRestarts();
        for (int sort = 0; sort <= 5; sort++) {
            x.task(sort, 1, 0);
            CHECK.due("alone: " + sort, x.fail(sort), 1);
            CHECK.due("place", x.taskAt(sort, 2), 0);
        }
        CHECK.due("times", x.told(10), 6);
    }

    private static void failOfDoneTasks() {
        RegionRestarts x = Jobs.chain(true, 3, Jobs.SOURCE, Jobs.SINK);
        Jobs.stepAll(x);
        CHECK.due("both are done", x.told(8), 2);
        CHECK.due("the sink", x.fail(1), 1);
        CHECK.due("it is not done", x.told(8), 1);
        CHECK.due("the source", x.fail(0), 1);
        CHECK.due("nor is that", x.told(8), 0);
        x.tick(1);
        Jobs.stepAll(x);
        CHECK.due("both are done again", x.told(8), 2);
    }

    /** "STATE: it has ENDED." */
    private static void refusedAfterTheEnd() {
        Twins twins = new Twins(CHECK, "after the end", BoundsOfNumbersTest::ended);
        for (int t = 0; t < 3; t++) {
            int task = t;
            twins.refused("fail " + t, STATE, x -> x.fail(task));
        }
        twins.end();
    }

    /** "as bits": of the first and of the last task. */
    private static void regionOfOne() {
        RegionRestarts x = new RegionRestarts();
        for (int t = 0; t < 16; t++) {
            x.task(t == 0 ? 0 : 4, 9, 0);
            x.channel(t - 1, t, true);
        }
        for (int t = 0; t < 16; t++) {
            CHECK.due("region " + t, x.region(t), 1 << t);
        }
    }

    private static void regionOfAll() {
        int[] all = {0, 1, 1, 1, 1, 1, 1, 1, 1, 1, 1, 1, 1, 1, 1, 5};
        RegionRestarts x = Jobs.chain(false, 3, all);
        for (int t = 0; t < 16; t++) {
            CHECK.due("region " + t, x.region(t), (1 << 16) - 1);
        }
        CHECK.due("how many", x.fail(15), 16);
        CHECK.due("they wait", x.told(7), 16);
        CHECK.due("times", x.told(10), 16);
    }

    /** "if rows of that are LOST": one is enough, and rows at THE MARK are not. */
    private static void regionByOneLostRow() {
        RegionRestarts x = Jobs.chain(true, 9, Jobs.SOURCE, Jobs.SINK);
        Jobs.stepAll(x);
        x.mark();
        CHECK.due("none behind the mark", x.lose(0), 0);
        CHECK.due("alone", x.region(1), 0b10);
        Jobs.stepAll(x);
        CHECK.due("one behind it", x.lose(0), 0);
        CHECK.due("is lost", x.channelAt(0, 6), 1);
        CHECK.due("with the giver", x.region(1), 0b11);
        CHECK.due("the giver alone", x.region(0), 0b01);
        CHECK.due("both begin again", x.fail(1), 2);
        CHECK.due("none is lost then", x.channelAt(0, 6), 0);
        CHECK.due("it has those of the mark", x.channelAt(0, 3), 8);
        CHECK.due("alone again", x.region(1), 0b10);
    }

    /** "if a row of them is SEEN that came behind those that the channel had .. at THE MARK". */
    private static void regionByOneSeenRow() {
        RegionRestarts x = Jobs.chain(true, 9, Jobs.SOURCE, Jobs.DRAW, Jobs.SINK);
        x.step(0);
        x.step(1);
        x.mark();
        x.step(2);
        CHECK.due("seen: all that it had", x.channelAt(1, 8), 8);
        CHECK.due("the draw alone", x.region(1), 0b010);
        x.step(0);
        x.step(1);
        CHECK.due("one is behind the mark", x.channelAt(1, 3), 9);
        CHECK.due("and not seen", x.region(1), 0b010);
        x.step(2);
        CHECK.due("seen: one more", x.channelAt(1, 8), 9);
        CHECK.due("with the sink", x.region(1), 0b110);
        CHECK.due("both begin again", x.fail(1), 2);
        CHECK.due("seen: up to what it had", x.channelAt(1, 8), 8);
        CHECK.due("the draw alone", x.region(1), 0b010);
    }

    /** ".. and those that its taker had taken, at THE MARK": eight, of a channel that had none then. */
    private static void regionByOneRowBeyondWhatWasTaken() {
        RegionRestarts x = Jobs.chain(true, 9, Jobs.SOURCE, Jobs.DRAW, Jobs.ADD, Jobs.SINK);
        Jobs.stepAll(x);
        x.lose(2);
        CHECK.due("the add alone", x.fail(2), 1);
        x.tick(1);
        x.mark();
        CHECK.due("it had", x.channelAt(2, 3), 0);
        CHECK.due("it had taken", x.channelAt(2, 5), 8);
        Jobs.stepAll(x);
        CHECK.due("given again", x.channelAt(2, 3), 8);
        CHECK.due("nothing new for the sink", x.channelAt(2, 8), 8);
        x.step(2);
        CHECK.due("the ninth", x.channelAt(2, 3), 9);
        CHECK.due("the draw's row behind the mark is lost", x.lose(1), 0);
        CHECK.due("one", x.channelAt(1, 6), 1);
        CHECK.due("not seen: without the sink", x.region(2), 0b0110);
        x.step(3);
        CHECK.due("seen", x.channelAt(2, 8), 9);
        CHECK.due("with the sink", x.region(2), 0b1110);
        CHECK.due("three", x.fail(2), 3);
        CHECK.due("seen: up to what was taken", x.channelAt(2, 8), 8);
    }

    /**
     * "UNSTEADY is a DRAW in it, and one in it to which a channel comes from one that is UNSTEADY":
     * also from task 0, which can have no rows; but not without such a channel.
     */
    private static void regionByADrawWithoutRows() {
        for (int channels = 0; channels <= 1; channels++) {
            RegionRestarts x = new RegionRestarts();
            x.task(4, 0, 0);
            x.task(0, 5, 1);
            x.task(1, 0, 0);
            x.task(5, 0, 1);
            x.channel(1, 2, true);
            x.channel(2, 3, true);
            if (channels == 1) {
                x.channel(0, 2, true);
            }
            Jobs.stepAll(x);
            CHECK.due("the sink saw", x.channelAt(1, 8), 5);
            CHECK.due("draw and add, with the sink or without", x.gone(0), 2 + channels);
        }
    }

    private static void regionsAfterTheEnd() {
        RegionRestarts x = BoundsOfNumbersTest.ended();
        int[] due = {0b001, 0b110, 0b110};
        for (int t = 0; t < 3; t++) {
            CHECK.due("region " + t, x.region(t), due[t]);
        }
    }
}
