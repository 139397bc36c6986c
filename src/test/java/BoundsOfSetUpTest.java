/** Promises 1 to 5: what a new object has, and where the numbers of its tasks, channels and rules end. */
public final class BoundsOfSetUpTest {
    private static final int UNKNOWN = -1, OUTSIDE = -2, STATE = -3, THREW = -5, NONE = -9;
    private static final int LEAST = Integer.MIN_VALUE, MOST = Integer.MAX_VALUE;
    private static final Check CHECK = new Check();

    public static void main(String[] args) {
        nothingInANewObject();
        fourNodes();
        firstBound();
        nothingIsSetAsideAtFirst();
        sorts();
        rowsOfASource();
        numberOfAnAdd();
        numberOfAnOnly();
        anyNumberOfOtherSorts();
        nodeThatIsGone();
        channelToAGreaterNumber();
        channelFromASink();
        channelToASource();
        setUpAfterAStep();
        setUpAfterAStepThatThrew();
        setUpAfterAStepOfNoRows();
        setUpAfterRefusedSteps();
        poisonValues();
        poisonAtItsBounds();
        ruleBounds();
        refusedRuleKeepsBothParts();
        CHECK.end();
    }

    /** "No tasks; .. TIME 0." */
    private static void nothingInANewObject() {
        RegionRestarts x = new RegionRestarts();
        for (int what = 0; what <= 10; what++) {
            CHECK.due("told(" + what + ")", x.told(what), what == 9 ? 4 : 0);
        }
        CHECK.due("region", x.region(0), UNKNOWN);
        CHECK.due("step", x.step(0), UNKNOWN);
        CHECK.due("fail", x.fail(0), UNKNOWN);
        CHECK.due("lose", x.lose(0), UNKNOWN);
        CHECK.due("taskAt", x.taskAt(0, 0), UNKNOWN);
        CHECK.due("channelAt", x.channelAt(0, 0), UNKNOWN);
        CHECK.due("row", x.row(0, 0), UNKNOWN);
        CHECK.due("out", x.out(0, 0), UNKNOWN);
        CHECK.due("aside", x.aside(0, 0), UNKNOWN);
        CHECK.due("poison", x.poison(0, 0), UNKNOWN);
        CHECK.due("channel", x.channel(0, 1, true), UNKNOWN);
        CHECK.due("cause", x.cause(0, 0), NONE);
        CHECK.due("mark", x.mark(), 1);
        CHECK.due("the unknown step was none", x.task(5, 0, 0), 0);
    }

    /** "four NODES": three of them can go. */
    private static void fourNodes() {
        RegionRestarts x = new RegionRestarts();
        for (int n = 3; n > 0; n--) {
            CHECK.due("nodes", x.told(9), n + 1);
            CHECK.due("gone " + n, x.gone(n), 0);
        }
        CHECK.due("one is left", x.told(9), 1);
        CHECK.due("that stays", x.gone(0), STATE);
        CHECK.due("one is left", x.told(9), 1);
    }

    /** "BOUND 3": the third fail begins again, the fourth ends the job. */
    private static void firstBound() {
        RegionRestarts x = new RegionRestarts();
        x.task(5, 0, 0);
        for (int i = 1; i <= 3; i++) {
            CHECK.due("fail " + i, x.fail(0), 1);
        }
        CHECK.due("not ended", x.told(6), 0);
        CHECK.due("the fourth", x.fail(0), 0);
        CHECK.due("ended", x.told(6), 1);
        CHECK.due("told by rule too", new RegionRestarts().rule(1, true), 3);
    }

    /** "nothing is set ASIDE": the fourth throw, with a WIDTH of 1, ends the job and sets none aside. */
    private static void nothingIsSetAsideAtFirst() {
        RegionRestarts x = new RegionRestarts();
        x.task(0, 1, 0);
        x.poison(0, 0);
        for (int i = 0; i < 4; i++) {
            CHECK.due("throw " + i, x.step(0), THREW);
            x.tick(16);
        }
        CHECK.due("none is set aside", x.taskAt(0, 9), 0);
        CHECK.due("none", x.aside(0, 0), NONE);
        CHECK.due("the width stays", x.taskAt(0, 4), 1);
    }

    private static RegionRestarts twoTasks() {
        return Jobs.chain(true, 5, Jobs.SOURCE, Jobs.SINK);
    }

    private static void refusedTask(int sort, int... numbers) {
        Twins twins = new Twins(CHECK, "sort " + sort, BoundsOfSetUpTest::twoTasks);
        for (int a : numbers) {
            twins.refused("a " + a, OUTSIDE, x -> x.task(sort, a, 0));
        }
        twins.end();
    }

    private static void takenTask(int sort, int... numbers) {
        RegionRestarts x = new RegionRestarts();
        for (int i = 0; i < numbers.length; i++) {
            CHECK.due("sort " + sort + ", a " + numbers[i], x.task(sort, numbers[i], 0), i);
            CHECK.due("its sort", x.taskAt(i, 0), sort);
        }
    }

    /** "OUTSIDE: SORT 0 to 5". */
    private static void sorts() {
        for (int sort : new int[] {LEAST, -6, -1, 6, 7, MOST}) {
            refusedTask(sort, -20, 0, 1, 5, 20);
        }
        for (int sort = 0; sort <= 5; sort++) {
            takenTask(sort, 1);
        }
    }

    /** "SOURCE (a: 0 to 20 rows": and it makes just so many. */
    private static void rowsOfASource() {
        refusedTask(0, LEAST, -20, -1, 21, 22, MOST);
        takenTask(0, 0, 1, 19, 20);
        for (int rows : new int[] {0, 1, 19, 20}) {
            RegionRestarts x = Jobs.chain(true, rows, Jobs.SOURCE, Jobs.SINK);
            CHECK.due(rows + " rows: done at first", x.taskAt(0, 7), rows == 0 ? 1 : 0);
            Jobs.stepTimes(x, 0, 3);
            CHECK.due(rows + " rows: made", x.taskAt(0, 2), rows);
            CHECK.due(rows + " rows: given", x.channelAt(0, 3), rows);
            CHECK.due(rows + " rows: no more", x.step(0), 0);
            CHECK.due(rows + " rows: done", x.taskAt(0, 7), 1);
        }
    }

    /** "ADD (a -20 to 20: gives x + a)". */
    private static void numberOfAnAdd() {
        refusedTask(1, LEAST, -22, -21, 21, 22, MOST);
        takenTask(1, -20, -19, 0, 19, 20);
        for (int a : new int[] {-20, 0, 20}) {
            RegionRestarts x = new RegionRestarts();
            x.task(0, 2, 0);
            x.task(1, a, 0);
            x.task(5, 0, 0);
            x.channel(0, 1, true);
            x.channel(1, 2, true);
            Jobs.stepAll(x);
            CHECK.due("0 and " + a, x.out(2, 0), a);
            CHECK.due("3 and " + a, x.out(2, 1), 3 + a);
        }
    }

    /** "ONLY (a 1 to 5: gives x, if it is a multiple of a)": of -15 -12 -9 -6 -3 0 3 -14. */
    private static void numberOfAnOnly() {
        refusedTask(2, LEAST, -5, -1, 0, 6, 7, MOST);
        takenTask(2, 1, 2, 3, 4, 5);
        multiples(1, -15, -12, -9, -6, -3, 0, 3, -14);
        multiples(2, -12, -6, 0, -14);
        multiples(3, -15, -12, -9, -6, -3, 0, 3);
        multiples(4, -12, 0);
        multiples(5, -15, 0);
    }

    private static void multiples(int a, int... due) {
        RegionRestarts x = new RegionRestarts();
        x.task(0, 8, 0);
        x.task(1, -15, 0);
        x.task(2, a, 0);
        x.task(5, 0, 0);
        for (int t = 0; t < 3; t++) {
            x.channel(t, t + 1, true);
        }
        Jobs.stepAll(x);
        CHECK.due("it takes all", x.taskAt(2, 2), 8);
        CHECK.due("how many are multiples of " + a, x.taskAt(3, 8), due.length);
        for (int k = 0; k < due.length; k++) {
            CHECK.due("multiple of " + a, x.out(3, k), due[k]);
        }
    }

    /** "a (of SORTS 3 to 5 any)". */
    private static void anyNumberOfOtherSorts() {
        for (int sort = 3; sort <= 5; sort++) {
            takenTask(sort, LEAST, -21, -1, 0, 6, 21, MOST);
        }
    }

    /** "UNKNOWN: the NODE (also one that is gone)". */
    private static void nodeThatIsGone() {
        for (int n = 0; n < 4; n++) {
            int node = n;
            Twins twins = new Twins(CHECK, "node " + n + " is gone", () -> {
                RegionRestarts x = twoTasks();
                x.gone(node);
                return x;
            });
            twins.refused("a task on it", UNKNOWN, x -> x.task(5, 0, node));
            twins.refused("also of a sort that there is not", UNKNOWN, x -> x.task(6, 0, node));
            twins.both("a task on the next one", x -> x.task(5, 0, (node + 1) % 4));
            twins.end();
        }
    }

    private static RegionRestarts sortsInARow() {
        return mixed(0, 1, 5, 0, 3, 5);
    }

    private static RegionRestarts mixed(int... sorts) {
        RegionRestarts x = new RegionRestarts();
        for (int sort : sorts) {
            x.task(sort, 3, 0);
        }
        return x;
    }

    /** "OUTSIDE: from is not below to": one below is the last that is allowed. */
    private static void channelToAGreaterNumber() {
        Twins twins = new Twins(CHECK, "not below", BoundsOfSetUpTest::sortsInARow);
        twins.refused("itself", OUTSIDE, x -> x.channel(1, 1, true));
        twins.refused("itself, direct", OUTSIDE, x -> x.channel(4, 4, false));
        twins.refused("one less", OUTSIDE, x -> x.channel(3, 2, true));
        twins.refused("the first", OUTSIDE, x -> x.channel(4, 1, true));
        twins.end();
        RegionRestarts y = sortsInARow();
        CHECK.due("one more", y.channel(0, 1, true), 0);
        CHECK.due("from the first to the last", y.channel(0, 5, true), 1);
        CHECK.due("the same again", y.channel(0, 5, true), 2);
    }

    /** "from is .. a SINK". */
    private static void channelFromASink() {
        Twins twins = new Twins(CHECK, "from a sink", BoundsOfSetUpTest::sortsInARow);
        twins.refused("to a total", OUTSIDE, x -> x.channel(2, 4, true));
        twins.refused("to a sink", OUTSIDE, x -> x.channel(2, 5, false));
        twins.end();
        for (int sort = 0; sort <= 4; sort++) {
            CHECK.due("from sort " + sort, mixed(sort, 5).channel(0, 1, true), 0);
        }
    }

    /** "to is a SOURCE". */
    private static void channelToASource() {
        Twins twins = new Twins(CHECK, "to a source", BoundsOfSetUpTest::sortsInARow);
        twins.refused("from a source", OUTSIDE, x -> x.channel(0, 3, true));
        twins.refused("from an add", OUTSIDE, x -> x.channel(1, 3, false));
        twins.end();
        for (int sort = 1; sort <= 5; sort++) {
            CHECK.due("to sort " + sort, mixed(0, sort).channel(0, 1, true), 0);
        }
    }

    private static void refusedSetUp(Twins twins) {
        twins.refused("task", STATE, x -> x.task(5, 0, 0));
        twins.refused("channel", STATE, x -> x.channel(0, 1, true));
        twins.refused("poison", STATE, x -> x.poison(1, 0));
        twins.end();
    }

    /** "STATE: a step was done". */
    private static void setUpAfterAStep() {
        refusedSetUp(new Twins(CHECK, "a step", () -> {
            RegionRestarts x = twoTasks();
            x.step(0);
            return x;
        }));
    }

    /** "ahead of the first step (also one that threw)". */
    private static void setUpAfterAStepThatThrew() {
        refusedSetUp(new Twins(CHECK, "a step that threw", () -> {
            RegionRestarts x = twoTasks();
            x.poison(0, 0);
            CHECK.due("it throws", x.step(0), THREW);
            return x;
        }));
    }

    private static void setUpAfterAStepOfNoRows() {
        refusedSetUp(new Twins(CHECK, "a step that took none", () -> {
            RegionRestarts x = twoTasks();
            CHECK.due("it takes none", x.step(1), 0);
            return x;
        }));
    }

    /** A step that is refused is none, and what is no step closes nothing. */
    private static void setUpAfterRefusedSteps() {
        RegionRestarts x = twoTasks();
        CHECK.due("unknown", x.step(2), UNKNOWN);
        x.fail(0);
        CHECK.due("it waits", x.step(0), STATE);
        x.tick(1);
        x.mark();
        x.gone(3);
        x.lose(0);
        x.rule(1, true);
        CHECK.due("task", x.task(5, 0, 0), 2);
        CHECK.due("channel", x.channel(0, 2, true), 1);
        CHECK.due("poison", x.poison(2, 0), 1001);
        x.fail(0);
        CHECK.due("ended", x.told(6), 1);
        CHECK.due("a step is refused", x.step(1), STATE);
        CHECK.due("task after the end", x.task(5, 0, 0), 3);
        CHECK.due("channel after the end", x.channel(0, 3, true), 2);
        CHECK.due("poison after the end", x.poison(3, 0), 1001);
    }

    /** "-1000 to 1000; at first it has none": and 1001 is told of none. */
    private static void poisonValues() {
        Twins twins = new Twins(CHECK, "poison", () -> {
            RegionRestarts x = twoTasks();
            x.poison(1, 5);
            return x;
        });
        for (int value : new int[] {LEAST, -1002, -1001, 1001, 1002, MOST}) {
            twins.refused("of none " + value, OUTSIDE, x -> x.poison(0, value));
            twins.refused("of one " + value, OUTSIDE, x -> x.poison(1, value));
        }
        twins.end();
        RegionRestarts y = twoTasks();
        int before = 1001;
        for (int value : new int[] {-1000, -999, 0, 999, 1000}) {
            CHECK.due("poison " + value, y.poison(0, value), before);
            CHECK.due("and once more", y.poison(0, value), value);
            before = value;
        }
        CHECK.due("the other task has none", y.poison(1, 0), 1001);
    }

    /** A row that has the last value that is allowed throws. */
    private static void poisonAtItsBounds() {
        int[] upwards = {Jobs.SOURCE, Jobs.TOTAL, Jobs.TOTAL, Jobs.ADD, Jobs.ADD, Jobs.ADD, Jobs.SINK};
        poisonOfTheSink(1000, upwards, 20, 0, 0, 20, 20, 20, 0);
        int[] downwards = {Jobs.SOURCE, Jobs.ADD, Jobs.TOTAL, Jobs.TOTAL, Jobs.ADD, Jobs.SINK};
        poisonOfTheSink(-1000, downwards, 20, -20, 0, 0, 2, 0);
    }

    /** One of the second eight rows that come to the sink has this value, and no other one has. */
    private static void poisonOfTheSink(int value, int[] sorts, int... numbers) {
        int sink = sorts.length - 1;
        for (int poison : new int[] {value - Integer.signum(value), value}) {
            RegionRestarts x = new RegionRestarts();
            for (int t = 0; t <= sink; t++) {
                x.task(sorts[t], numbers[t], 0);
                x.channel(t - 1, t, true);
            }
            x.poison(sink, poison);
            for (int t = 0; t < sink; t++) {
                x.step(t);
                x.step(t);
            }
            CHECK.due("ahead of the value " + value, x.step(sink), 8);
            CHECK.due("poison " + poison, x.step(sink), poison == value ? THREW : 8);
        }
    }

    /** "The BOUND (1 to 9) .. OUTSIDE." */
    private static void ruleBounds() {
        Twins twins = new Twins(CHECK, "rule", BoundsOfSetUpTest::twoTasks);
        for (int bound : new int[] {LEAST, -9, -1, 0, 10, 11, MOST}) {
            twins.refused("bound " + bound, OUTSIDE, x -> x.rule(bound, true));
            twins.refused("bound " + bound, OUTSIDE, x -> x.rule(bound, false));
        }
        twins.end();
        RegionRestarts y = new RegionRestarts();
        int before = 3;
        for (int bound = 1; bound <= 9; bound++) {
            CHECK.due("bound " + bound, y.rule(bound, bound % 2 == 0), before);
            before = bound;
        }
        CHECK.due("the last one holds", y.rule(9, false), 9);
    }

    /** A rule that is refused changes neither the BOUND nor whether rows are set ASIDE. */
    private static void refusedRuleKeepsBothParts() {
        for (boolean aside : new boolean[] {false, true}) {
            RegionRestarts x = new RegionRestarts();
            x.task(0, 3, 0);
            x.poison(0, 0);
            x.rule(4, aside);
            CHECK.due("above", x.rule(10, !aside), OUTSIDE);
            CHECK.due("below", x.rule(0, !aside), OUTSIDE);
            for (int i = 0; i < 4; i++) {
                CHECK.due("throw " + i, x.step(0), THREW);
                x.tick(16);
            }
            CHECK.due("set aside", x.taskAt(0, 9), aside ? 1 : 0);
            CHECK.due("not ended: four", x.told(6), 0);
            CHECK.due("ended: five", x.fail(0), 0);
            CHECK.due("the bound", x.rule(4, false), 4);
        }
    }
}
