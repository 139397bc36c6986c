/** Jobs that several tests begin with, and ways to look at a whole object. */
final class Jobs {
    static final int SOURCE = 0, ADD = 1, ONLY = 2, TOTAL = 3, DRAW = 4, SINK = 5;

    private Jobs() {
    }

    /** Tasks of these sorts, number t on node t mod 4, in a chain of channels of one sort. */
    static RegionRestarts chain(boolean kept, int rows, int... sorts) {
        RegionRestarts x = new RegionRestarts();
        for (int t = 0; t < sorts.length; t++) {
            x.task(sorts[t], sorts[t] == SOURCE ? rows : sorts[t] == ONLY ? 2 : 0, t % 4);
            if (t > 0) {
                x.channel(t - 1, t, kept);
            }
        }
        return x;
    }

    static void stepAll(RegionRestarts x) {
        for (int t = 0; t < x.told(0); t++) {
            x.step(t);
        }
    }

    static void stepTimes(RegionRestarts x, int task, int times) {
        for (int i = 0; i < times; i++) {
            x.step(task);
        }
    }

    /** What the row that is drawn as number k of a job, from 1 on, has more. */
    static int drawn(int k) {
        long drawn = 1;
        for (int i = 0; i < k; i++) {
            drawn = drawn * 16807 % 2147483647L;
        }
        return (int) (drawn % 10);
    }

    /** All that can be asked of an object without changing it. */
    static String look(RegionRestarts x) {
        StringBuilder text = new StringBuilder("told");
        for (int what = 0; what <= 10; what++) {
            text.append(' ').append(x.told(what));
        }
        int tasks = x.told(0);
        for (int t = 0; t < tasks; t++) {
            lookAtTask(x, t, text);
        }
        int channels = x.told(1);
        for (int c = 0; c < channels; c++) {
            lookAtChannel(x, c, text);
        }
        int causes = x.told(5);
        for (int k = 0; k < causes; k++) {
            text.append("\ncause ").append(x.cause(k, 0)).append(' ').append(x.cause(k, 1));
            text.append(' ').append(x.cause(k, 2));
        }
        return text.toString();
    }

    private static void lookAtTask(RegionRestarts x, int task, StringBuilder text) {
        text.append("\ntask ").append(task).append(": region ").append(x.region(task)).append(" at");
        for (int what = 0; what <= 9; what++) {
            text.append(' ').append(x.taskAt(task, what));
        }
        text.append(" out");
        int rows = x.taskAt(task, 8);
        for (int k = 0; k < rows; k++) {
            text.append(' ').append(x.out(task, k));
        }
        text.append(" aside");
        int aside = x.taskAt(task, 9);
        for (int k = 0; k < aside; k++) {
            text.append(' ').append(x.aside(task, k));
        }
    }

    private static void lookAtChannel(RegionRestarts x, int channel, StringBuilder text) {
        text.append("\nchannel ").append(channel).append(":");
        for (int what = 0; what <= 8; what++) {
            text.append(' ').append(x.channelAt(channel, what));
        }
        text.append(" rows");
        int rows = x.channelAt(channel, 3);
        for (int k = 0; k < rows; k++) {
            text.append(' ').append(x.row(channel, k));
        }
    }
}
