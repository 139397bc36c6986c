/** Jobs that several tests begin with, and ways to look at a whole object. */
final class Jobs {
    static final int SOURCE = 0, ADD = 1, ONLY = 2, TOTAL = 3, DRAW = 4, SINK = 5;

    private Jobs() {
    }

    /** Tasks of these sorts, number t on node t mod 4, in a chain of channels of one sort. */
    static RegionRestarts chain(boolean kept, int rows, int... sorts) {
        RegionRestarts x = new RegionRestarts();
        for (int t = 0; t < sorts.length; t++) {
            x.task(sorts[t], sorts[t] == SOURCE ? rows : sorts[t] == ONLY ? 2 : 0, t % 4);
            if (t > 0) {
                x.channel(t - 1, t, kept);
            }
        }
        return x;
    }

    static void stepAll(RegionRestarts x) {
        for (int t = 0; t < x.told(0); t++) {
            x.step(t);
        }
    }

    static void stepTimes(RegionRestarts x, int task, int times) {
        for (int i = 0; i < times; i++) {
            x.step(task);
        }
    }

    /** All that can be asked of an object without changing it. */
    static String look(RegionRestarts x) {
        StringBuilder text = new StringBuilder("told");
        for (int what = 0; what <= 10; what++) {
            text.append(' ').append(x.told(what));
        }
        for (int t = 0; t < x.told(0); t++) {
            text.append("\ntask ").append(t).append(": region ").append(x.region(t)).append(" at");
            for (int what = 0; what <= 9; what++) {
                text.append(' ').append(x.taskAt(t, what));
            }
            text.append(" out");
            for (int k = 0; k < x.taskAt(t, 8); k++) {
                text.append(' ').append(x.out(t, k));
            }
            text.append(" aside");
            for (int k = 0; k < x.taskAt(t, 9); k++) {
                text.append(' ').append(x.aside(t, k));
            }
        }
        for (int c = 0; c < x.told(1); c++) {
            text.append("\nchannel ").append(c).append(":");
            for (int what = 0; what <= 8; what++) {
                text.append(' ').append(x.channelAt(c, what));
            }
            text.append(" rows");
            for (int k = 0; k < x.channelAt(c, 3); k++) {
                text.append(' ').append(x.row(c, k));
            }
        }
        for (int k = 0; k < x.told(5); k++) {
            text.append("\ncause ").append(x.cause(k, 0)).append(' ').append(x.cause(k, 1));
            text.append(' ').append(x.cause(k, 2));
        }
        return text.toString();
    }
}
