/** Promises 7 and 12: fail and region, with what begins again and how. */
public final class FailTest {
    private static final int UNKNOWN = -1, STATE = -3;
    private static final Check CHECK = new Check();

    public static void main(String[] args) {
        refused();
        endsAboveTheBound();
        waits();
        longerWaitsStay();
        directChannelsBothWays();
        keptChannelsPartRegions();
        lostRowsBringTheGiver();
        unsteadyBringsThoseThatSaw();
        unsteadyOnlyWithinTheRegion();
        unsteadyThroughADirectChannel();
        seenOutlivesANewBeginning();
        seenUpToTheMarkIsSettled();
        seenStaysWhenTakenAgain();
        takenAtTheMarkIsSettled();
        takenAtTheMarkIsSettledWithoutRows();
        asAtTheMark();
        directRowsAsAtTheMark();
        unsteadyRowsAsAtTheMark();
        whatStays();
        regionChangesNothing();
        CHECK.end();
    }

    private static void refused() {
        RegionRestarts x = Jobs.chain(true, 3, Jobs.SOURCE, Jobs.SINK);
        CHECK.due("fail -1", x.fail(-1), UNKNOWN);
        CHECK.due("fail 2", x.fail(2), UNKNOWN);
        CHECK.due("region -1", x.region(-1), UNKNOWN);
        CHECK.due("region 2", x.region(2), UNKNOWN);
        x.rule(1, false);
        CHECK.due("ahead of the first step", x.fail(0), 1);
        CHECK.due("while it waits: above the bound", x.fail(0), 0);
        CHECK.due("after the end", x.fail(1), STATE);
        CHECK.due("unknown ahead of state", x.fail(2), UNKNOWN);
        CHECK.due("the region can be asked still", x.region(0), 1);
    }

    private static void endsAboveTheBound() {
        RegionRestarts x = Jobs.chain(true, 3, Jobs.SOURCE, Jobs.TOTAL, Jobs.SINK);
        Jobs.stepAll(x);
        for (int i = 0; i < 3; i++) {
            CHECK.due("fail " + i, x.fail(1), 1);
            x.tick(16);
            x.step(1);
        }
        CHECK.due("not ended", x.told(6), 0);
        CHECK.due("the fourth", x.fail(1), 0);
        CHECK.due("ended", x.told(6), 1);
        CHECK.due("fails", x.taskAt(1, 5), 4);
        CHECK.due("causes", x.told(5), 4);
        CHECK.due("nothing else is done: place", x.taskAt(1, 2), 3);
        CHECK.due("nothing else is done: sum", x.taskAt(1, 3), 9);
        CHECK.due("nothing else is done: waits", x.taskAt(1, 6), 0);
        CHECK.due("nothing else is done: times", x.told(10), 3);
        RegionRestarts y = Jobs.chain(true, 3, Jobs.SOURCE, Jobs.SINK);
        y.rule(1, false);
        y.fail(0);
        CHECK.due("fails are of each task", y.fail(1), 1);
    }

    private static void waits() {
        RegionRestarts x = Jobs.chain(true, 3, Jobs.SOURCE, Jobs.SINK);
        x.rule(9, false);
        int[] due = {1, 2, 4, 8, 16, 16, 16, 16, 16};
        for (int i = 0; i < due.length; i++) {
            x.fail(0);
            CHECK.due("after fail " + (i + 1), x.taskAt(0, 6), due[i]);
            CHECK.due("the other one", x.taskAt(1, 6), 0);
            x.tick(due[i]);
            CHECK.due("after its time", x.taskAt(0, 6), 0);
        }
    }

    private static void longerWaitsStay() {
        RegionRestarts x = Jobs.chain(false, 3, Jobs.SOURCE, Jobs.SINK);
        x.fail(0);
        x.fail(0);
        x.fail(0);
        CHECK.due("both wait", x.taskAt(1, 6), 4);
        x.tick(1);
        CHECK.due("still", x.taskAt(1, 6), 3);
        CHECK.due("the sink's first", x.fail(1), 2);
        CHECK.due("the longer wait", x.taskAt(0, 6), 3);
        CHECK.due("the longer wait", x.taskAt(1, 6), 3);
        x.tick(2);
        x.fail(1);
        CHECK.due("now the new one is longer", x.taskAt(0, 6), 2);
    }

    private static void directChannelsBothWays() {
        RegionRestarts x = new RegionRestarts();
        x.task(0, 3, 0);
        x.task(1, 0, 0);
        x.task(1, 0, 0);
        x.task(1, 0, 0);
        x.task(5, 0, 0);
        x.channel(0, 1, true);
        x.channel(1, 2, false);
        x.channel(1, 3, false);
        x.channel(2, 4, true);
        x.channel(3, 4, true);
        CHECK.due("of the giver", x.region(1), 0b01110);
        CHECK.due("of a taker", x.region(2), 0b01110);
        CHECK.due("of the other taker", x.region(3), 0b01110);
        CHECK.due("of the source", x.region(0), 0b00001);
        CHECK.due("of the sink", x.region(4), 0b10000);
        CHECK.due("how many", x.fail(3), 3);
        CHECK.due("those wait", x.told(7), 3);
    }

    private static void keptChannelsPartRegions() {
        RegionRestarts x = Jobs.chain(true, 5, Jobs.SOURCE, Jobs.ADD, Jobs.TOTAL, Jobs.SINK);
        Jobs.stepAll(x);
        for (int t = 0; t < 4; t++) {
            CHECK.due("alone: " + t, x.region(t), 1 << t);
        }
    }

    private static void lostRowsBringTheGiver() {
        RegionRestarts x = Jobs.chain(true, 5, Jobs.SOURCE, Jobs.ADD, Jobs.TOTAL, Jobs.SINK);
        Jobs.stepAll(x);
        x.lose(1);
        CHECK.due("the taker, with the giver", x.region(2), 0b0110);
        CHECK.due("the giver alone", x.region(1), 0b0010);
        x.lose(0);
        CHECK.due("and on", x.region(2), 0b0111);
        CHECK.due("begun again", x.fail(2), 3);
        CHECK.due("none is lost then", x.channelAt(0, 6), 0);
        CHECK.due("none is lost then", x.channelAt(1, 6), 0);
        CHECK.due("rows as at the mark", x.channelAt(0, 3), 0);
        CHECK.due("rows of a kept one", x.channelAt(2, 3), 5);
        x.tick(1);
        Jobs.stepAll(x);
        CHECK.due("the sink has what it had", x.taskAt(3, 8), 5);
        CHECK.due("done, all", x.told(8), 4);
    }

    private static void unsteadyBringsThoseThatSaw() {
        RegionRestarts x = Jobs.chain(true, 12, Jobs.SOURCE, Jobs.DRAW, Jobs.ADD, Jobs.ONLY, Jobs.SINK);
        x.step(0);
        x.step(1);
        CHECK.due("none saw", x.region(1), 0b00010);
        x.step(2);
        CHECK.due("one saw", x.region(1), 0b00110);
        x.step(3);
        CHECK.due("two saw", x.region(1), 0b01110);
        x.step(4);
        CHECK.due("all saw", x.region(1), 0b11110);
        CHECK.due("those below stay", x.region(2), 0b00100);
        CHECK.due("the source stays", x.region(0), 0b00001);
    }

    /** A task behind a draw is steady when the draw does not begin again with it. */
    private static void unsteadyOnlyWithinTheRegion() {
        RegionRestarts x = Jobs.chain(true, 4, Jobs.SOURCE, Jobs.DRAW, Jobs.ADD, Jobs.SINK);
        Jobs.stepAll(x);
        CHECK.due("it alone", x.fail(2), 1);
        CHECK.due("rows are kept", x.channelAt(2, 3), 4);
        CHECK.due("and seen", x.channelAt(2, 8), 4);
        x.tick(1);
        x.step(2);
        x.lose(1);
        CHECK.due("with the draw, which is unsteady", x.region(2), 0b1110);
    }

    private static void unsteadyThroughADirectChannel() {
        RegionRestarts x = new RegionRestarts();
        x.task(0, 4, 0);
        x.task(4, 0, 0);
        x.task(1, 0, 0);
        x.task(5, 0, 0);
        x.channel(0, 1, true);
        x.channel(1, 2, false);
        x.channel(2, 3, true);
        Jobs.stepAll(x);
        CHECK.due("the taker brings the draw, and that is unsteady", x.region(2), 0b1110);
        CHECK.due("it begins again", x.fail(2), 3);
        CHECK.due("rows of the kept one are as at the mark", x.channelAt(2, 3), 0);
        CHECK.due("none is seen", x.channelAt(2, 8), 0);
        CHECK.due("nor in the direct one", x.channelAt(1, 8), 0);
        CHECK.due("but what the source gave is", x.channelAt(0, 8), 4);
    }

    private static void seenOutlivesANewBeginning() {
        RegionRestarts x = Jobs.chain(true, 4, Jobs.SOURCE, Jobs.DRAW, Jobs.ADD, Jobs.SINK);
        Jobs.stepAll(x);
        x.fail(2);
        CHECK.due("none is taken", x.channelAt(1, 5), 0);
        CHECK.due("all are seen", x.channelAt(1, 8), 4);
        CHECK.due("so the taker must begin again", x.region(1), 0b1110);

        RegionRestarts y = Jobs.chain(false, 4, Jobs.SOURCE, Jobs.ADD, Jobs.SINK);
        Jobs.stepAll(y);
        y.fail(0);
        CHECK.due("a direct one has none", y.channelAt(0, 3), 0);
        CHECK.due("they will be the same", y.channelAt(0, 8), 4);
    }

    private static void seenUpToTheMarkIsSettled() {
        RegionRestarts x = Jobs.chain(true, 20, Jobs.SOURCE, Jobs.DRAW, Jobs.ADD, Jobs.SINK);
        x.step(0);
        x.step(1);
        CHECK.due("mark", x.mark(), 1);
        x.step(2);
        CHECK.due("taken behind the mark, had at it", x.region(1), 0b0010);
        x.step(0);
        x.step(1);
        CHECK.due("not seen", x.region(1), 0b0010);
        x.step(2);
        CHECK.due("seen, and came behind the mark", x.region(1), 0b0110);
        CHECK.due("two", x.fail(1), 2);
        CHECK.due("rows that it had", x.channelAt(1, 3), 8);
        CHECK.due("seen up to there", x.channelAt(1, 8), 8);
        CHECK.due("given", x.channelAt(1, 4), 8);
        CHECK.due("taken", x.channelAt(1, 5), 0);
    }

    private static void takenAtTheMarkIsSettled() {
        RegionRestarts x = Jobs.chain(true, 4, Jobs.SOURCE, Jobs.DRAW, Jobs.ADD, Jobs.SINK);
        Jobs.stepAll(x);
        x.lose(2);
        x.fail(2);
        x.tick(1);
        CHECK.due("had none", x.channelAt(2, 3), 0);
        x.mark();
        x.step(2);
        CHECK.due("mark: had 4 that were not taken; had 0, 4 of them taken", x.region(1), 0b0010);
        x.lose(1);
        CHECK.due("none of those can be lost", x.region(2), 0b0100);
        x.gone(2);
        CHECK.due("on the draw's node now", x.taskAt(2, 1), 0);
        x.tick(16);
        x.step(2);
        CHECK.due("the sink goes on behind those", x.step(3), 0);
        CHECK.due("and is done", x.taskAt(3, 7), 1);
        for (int k = 0; k < 4; k++) {
            CHECK.due("the same row " + k, x.out(3, k), x.row(2, k));
        }
    }

    private static void seenStaysWhenTakenAgain() {
        RegionRestarts x = Jobs.chain(true, 16, Jobs.SOURCE, Jobs.SINK);
        Jobs.stepAll(x);
        Jobs.stepAll(x);
        x.fail(1);
        x.tick(1);
        x.step(1);
        CHECK.due("taken again so far", x.channelAt(0, 5), 8);
        CHECK.due("seen", x.channelAt(0, 8), 16);
    }

    /** At the mark the channel to the sink had no rows, but the sink had taken eight of it. */
    private static void takenAtTheMarkIsSettledWithoutRows() {
        RegionRestarts x = Jobs.chain(true, 20, Jobs.SOURCE, Jobs.DRAW, Jobs.ADD, Jobs.SINK);
        Jobs.stepAll(x);
        x.lose(2);
        x.fail(2);
        x.tick(1);
        x.mark();
        x.step(2);
        x.step(0);
        x.step(1);
        x.step(2);
        CHECK.due("none begins again", x.lose(1), 0);
        CHECK.due("the add and the draw are unsteady, the sink stays", x.region(2), 0b0110);
        x.step(3);
        CHECK.due("it took more: it does not", x.region(2), 0b1110);
        CHECK.due("three", x.fail(2), 3);
        CHECK.due("rows", x.channelAt(2, 3), 0);
        CHECK.due("taken", x.channelAt(2, 5), 8);
        CHECK.due("seen", x.channelAt(2, 8), 8);
        CHECK.due("out", x.taskAt(3, 8), 8);
    }

    private static void asAtTheMark() {
        RegionRestarts x = Jobs.chain(true, 20, Jobs.SOURCE, Jobs.TOTAL, Jobs.SINK);
        Jobs.stepAll(x);
        x.mark();
        int sum = x.taskAt(1, 3);
        Jobs.stepAll(x);
        CHECK.due("the total alone", x.fail(1), 1);
        CHECK.due("place", x.taskAt(1, 2), 8);
        CHECK.due("sum", x.taskAt(1, 3), sum);
        CHECK.due("taken", x.channelAt(0, 5), 8);
        CHECK.due("given", x.channelAt(1, 4), 8);
        CHECK.due("rows", x.channelAt(1, 3), 16);
        CHECK.due("the sink alone", x.fail(2), 1);
        CHECK.due("out", x.taskAt(2, 8), 8);
        CHECK.due("taken", x.channelAt(1, 5), 8);
        CHECK.due("the source alone", x.fail(0), 1);
        CHECK.due("place", x.taskAt(0, 2), 8);
        CHECK.due("given", x.channelAt(0, 4), 8);
        CHECK.due("rows", x.channelAt(0, 3), 16);
        x.tick(1);
        CHECK.due("rows that are kept, ahead of the source", x.step(1), 8);
        CHECK.due("the source", x.step(0), 8);
        CHECK.due("no new ones", x.step(1), 0);
        x.step(0);
        CHECK.due("new ones", x.step(1), 4);
        Jobs.stepTimes(x, 2, 3);
        CHECK.due("out", x.taskAt(2, 8), 20);
        CHECK.due("all", x.told(8), 3);
        CHECK.due("the sum of all", x.out(2, 19), 190);
    }

    private static void directRowsAsAtTheMark() {
        RegionRestarts x = Jobs.chain(false, 20, Jobs.SOURCE, Jobs.TOTAL, Jobs.SINK);
        Jobs.stepAll(x);
        x.step(0);
        x.mark();
        x.step(0);
        Jobs.stepAll(x);
        CHECK.due("all", x.fail(2), 3);
        CHECK.due("rows", x.channelAt(0, 3), 16);
        CHECK.due("given", x.channelAt(0, 4), 16);
        CHECK.due("taken", x.channelAt(0, 5), 8);
        CHECK.due("rows", x.channelAt(1, 3), 8);
        CHECK.due("place", x.taskAt(0, 2), 16);
        CHECK.due("out", x.taskAt(2, 8), 8);
        x.tick(1);
        for (int i = 0; i < 3; i++) {
            Jobs.stepAll(x);
        }
        CHECK.due("rows of out", x.taskAt(2, 8), 20);
        CHECK.due("the sum of all", x.out(2, 19), 190);
    }

    private static void unsteadyRowsAsAtTheMark() {
        RegionRestarts x = Jobs.chain(true, 20, Jobs.SOURCE, Jobs.DRAW, Jobs.SINK);
        Jobs.stepAll(x);
        int first = x.row(1, 0);
        x.mark();
        Jobs.stepAll(x);
        int ninth = x.row(1, 8);
        CHECK.due("both", x.fail(1), 2);
        CHECK.due("rows", x.channelAt(1, 3), 8);
        CHECK.due("the first stays", x.row(1, 0), first);
        CHECK.due("the ninth is gone", x.row(1, 8), -9);
        CHECK.due("and of out", x.out(2, 8), -9);
        x.tick(1);
        x.step(1);
        CHECK.due("it is another one now", x.row(1, 8) == ninth ? 1 : 0, 0);
        x.step(2);
        CHECK.due("that is taken", x.out(2, 8), x.row(1, 8));
    }

    private static void whatStays() {
        RegionRestarts x = Jobs.chain(true, 8, Jobs.SOURCE, Jobs.SINK);
        x.poison(1, 3);
        x.rule(9, true);
        x.step(0);
        for (int i = 0; i < 6; i++) {
            x.step(1);
            x.tick(16);
        }
        CHECK.due("aside", x.aside(1, 0), 1);
        int fails = x.taskAt(1, 5);
        x.fail(1);
        CHECK.due("aside stays", x.aside(1, 0), 1);
        CHECK.due("fails go on", x.taskAt(1, 5), fails + 1);
        CHECK.due("width stays", x.taskAt(1, 4), 8);
        RegionRestarts y = Jobs.chain(true, 8, Jobs.SOURCE, Jobs.SINK);
        y.poison(1, 3);
        y.step(0);
        y.step(1);
        y.fail(1);
        CHECK.due("a lesser width stays", y.taskAt(1, 4), 4);
    }

    private static void regionChangesNothing() {
        RegionRestarts x = Jobs.chain(false, 8, Jobs.SOURCE, Jobs.DRAW, Jobs.SINK);
        Jobs.stepAll(x);
        String before = Jobs.look(x);
        x.region(0);
        CHECK.due("as it was", Jobs.look(x).equals(before) ? 1 : 0, 1);
    }
}
