/**
 * Whatever fails in between, a job that comes to its end has used each row just once: what each task
 * gave follows from the rows that its channels have.
 */
public final class OnceOnlyTest {
    private static final int JOBS = 6000;
    private static final Check CHECK = new Check();
    private static final boolean[] HAPPENED = new boolean[5];
    private static long state = 20261116;

    public static void main(String[] args) {
        int finished = 0;
        for (int job = 0; job < JOBS; job++) {
            RegionRestarts x = new RegionRestarts();
            int[] numbers = makeJob(x);
            disturb(x);
            if (finish(x)) {
                finished++;
                checkJob(x, numbers, "job " + job);
            }
        }
        CHECK.due("enough jobs came to their end", finished > JOBS / 3 ? 1 : 0, 1);
        String[] names = {"a task began again", "rows were lost", "a node went", "rows were aside",
            "more was taken than is there"};
        for (int i = 0; i < HAPPENED.length; i++) {
            CHECK.due(names[i], HAPPENED[i] ? 1 : 0, 1);
        }
        CHECK.end();
    }

    private static int below(int n) {
        state = state * 6364136223846793005L + 1442695040888963407L;
        return (int) ((state >>> 33) % n);
    }

    private static int[] makeJob(RegionRestarts x) {
        int tasks = 3 + below(7);
        int[] numbers = new int[tasks];
        for (int t = 0; t < tasks; t++) {
            int sort = t == 0 ? 0 : t == tasks - 1 ? 5 : below(8) % 6;
            int a = sort == 0 ? below(21) : sort == 1 ? below(41) - 20 : sort == 2 ? 1 + below(5) : 0;
            numbers[t] = a;
            x.task(sort, a, below(4));
        }
        int channels = tasks + below(6);
        int kept = below(10);
        for (int c = 0; c < channels; c++) {
            int from = below(tasks - 1);
            x.channel(from, from + 1 + below(tasks - from - 1), below(10) >= kept);
        }
        if (below(2) == 0) {
            x.poison(below(tasks), below(20));
        }
        x.rule(9, below(3) > 0);
        return numbers;
    }

    private static void disturb(RegionRestarts x) {
        int tasks = x.told(0);
        int calls = below(120);
        for (int i = 0; i < calls; i++) {
            int kind = below(40);
            if (kind < 26) {
                x.step(below(tasks));
            } else if (kind < 31) {
                x.tick(1 + below(20));
            } else if (kind < 34) {
                x.mark();
            } else if (kind < 36) {
                HAPPENED[0] |= x.fail(below(tasks)) > 1;
            } else if (kind < 39 && x.told(1) > 0) {
                int channel = below(x.told(1));
                x.lose(channel);
                HAPPENED[1] |= x.channelAt(channel, 6) > 0;
            } else {
                HAPPENED[2] |= x.gone(below(4)) > 1;
            }
            checkCounts(x);
        }
    }

    private static void checkCounts(RegionRestarts x) {
        for (int c = 0; c < x.told(1); c++) {
            int held = x.channelAt(c, 3);
            int given = x.channelAt(c, 4);
            int taken = x.channelAt(c, 5);
            boolean direct = x.channelAt(c, 2) == 0;
            boolean fine = given <= held && held <= 64 && taken <= x.channelAt(c, 8)
                    && x.channelAt(c, 6) <= Math.min(held, taken)
                    && (!direct || given == held && taken <= held && x.channelAt(c, 6) == 0);
            HAPPENED[4] |= taken > held;
            if (!fine && x.told(6) == 0) {
                CHECK.due("counts of channel " + c + "\n" + Jobs.look(x), 0, 1);
            }
        }
    }

    /** Whether all came to be done: rows of a job may be too many for its channels. */
    private static boolean finish(RegionRestarts x) {
        for (int round = 0; round < 3000 && x.told(8) < x.told(0); round++) {
            x.tick(16);
            Jobs.stepAll(x);
        }
        boolean full = x.told(6) == 1;
        for (int c = 0; c < x.told(1); c++) {
            full |= x.channelAt(c, 4) == 64 || x.taskAt(x.channelAt(c, 1), 8) == 200;
        }
        boolean done = x.told(8) == x.told(0);
        if (!full && !done) {
            CHECK.due("a job that is stuck\n" + Jobs.look(x), 0, 1);
        }
        return done && x.told(6) == 0;
    }

    private static void checkJob(RegionRestarts x, int[] numbers, String job) {
        for (int t = 0; t < x.told(0); t++) {
            checkTask(x, t, numbers[t], job + ", task " + t);
        }
    }

    private static void checkTask(RegionRestarts x, int task, int a, String about) {
        int sort = x.taskAt(task, 0);
        int[] rows = rowsTo(x, task, a);
        int sum = 0;
        int given = 0;
        CHECK.due(about + ": place", x.taskAt(task, 2), rows.length);
        for (int k = 0; k < rows.length; k++) {
            if (isAside(x, task, k) || sort == 2 && rows[k] % a != 0) {
                continue;
            }
            sum += rows[k];
            int due = sort == 1 ? rows[k] + a : sort == 3 ? sum : rows[k];
            checkGiven(x, task, given, due, about);
            given++;
        }
        CHECK.due(about + ": sum", x.taskAt(task, 3), sort == 3 ? sum : 0);
        CHECK.due(about + ": out", x.taskAt(task, 8), sort == 5 ? given : 0);
        for (int c = 0; c < x.told(1); c++) {
            if (x.channelAt(c, 0) == task) {
                CHECK.due(about + ": gave to " + c, x.channelAt(c, 4), given);
                CHECK.due(about + ": rows of " + c, x.channelAt(c, 3), given);
                CHECK.due(about + ": taken of " + c, x.channelAt(c, 5), given);
                CHECK.due(about + ": seen of " + c, x.channelAt(c, 8), given);
            }
        }
    }

    private static void checkGiven(RegionRestarts x, int task, int k, int due, String about) {
        int sort = x.taskAt(task, 0);
        if (sort == 5) {
            CHECK.due(about + ": out " + k, x.out(task, k), due);
        }
        int first = 0;
        boolean any = false;
        for (int c = 0; c < x.told(1); c++) {
            if (x.channelAt(c, 0) != task) {
                continue;
            }
            int got = x.row(c, k);
            if (sort == 4) {
                CHECK.due(about + ": drawn", got - due >= 0 && got - due <= 9 ? 1 : 0, 1);
                CHECK.due(about + ": the same for all", any ? first : got, got);
            } else {
                CHECK.due(about + ": row " + k + " of " + c, got, due);
            }
            first = got;
            any = true;
        }
    }

    private static int[] rowsTo(RegionRestarts x, int task, int a) {
        int[] rows = new int[3000];
        int count = 0;
        if (x.taskAt(task, 0) == 0) {
            for (; count < a; count++) {
                rows[count] = (5 * task + 3 * count) % 20;
            }
        }
        for (int c = 0; c < x.told(1); c++) {
            for (int k = 0; x.channelAt(c, 1) == task && k < x.channelAt(c, 3); k++) {
                rows[count] = x.row(c, k);
                count++;
            }
        }
        return java.util.Arrays.copyOf(rows, count);
    }

    private static boolean isAside(RegionRestarts x, int task, int number) {
        for (int k = 0; k < x.taskAt(task, 9); k++) {
            if (x.aside(task, k) == number) {
                HAPPENED[3] = true;
                return true;
            }
        }
        return false;
    }
}
