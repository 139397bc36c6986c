/** No call throws, whatever its arguments are; a call that is refused changes nothing. */
public final class AnyCallTest {
    private static final int THREW = -5;
    private static final int[] ODD = {Integer.MIN_VALUE, -1001, -1, 16, 31, 32, 33, 40, 64, 200, 1001, Integer.MAX_VALUE};
    private static final String[] NAMES = {"task", "channel", "poison", "rule", "step", "fail", "gone",
        "lose", "tick", "mark", "region", "taskAt", "channelAt", "row", "out", "aside", "cause", "told", "clear"};
    private static final Check CHECK = new Check();
    private static long state = 7;

    public static void main(String[] args) {
        for (int run = 0; run < 300; run++) {
            RegionRestarts x = new RegionRestarts();
            RegionRestarts twin = new RegionRestarts();
            int small = 2 + below(15);
            for (int i = 0; i < 512; i++) {
                // Tasks and channels come first in most runs; a step would close them.
                int method = i < 50 && run % 4 > 0 ? below(4) : below(NAMES.length);
                if (method == 18 && below(40) > 0) {
                    method = 4;
                }
                int a = argument(method == 0 ? 6 : small);
                int b = argument(method == 3 ? 10 : small);
                int c = argument(5);
                oneCall(x, twin, method, a, b, c);
            }
        }
        CHECK.end();
    }

    private static int below(int n) {
        state = state * 6364136223846793005L + 1442695040888963407L;
        return (int) ((state >>> 33) % n);
    }

    private static int argument(int small) {
        return below(25) == 0 ? ODD[below(ODD.length)] : below(small);
    }

    private static void oneCall(RegionRestarts x, RegionRestarts twin, int method, int a, int b, int c) {
        String before = Jobs.look(x);
        int answer = call(x, method, a, b, c);
        String after = Jobs.look(x);
        String about = NAMES[method] + "(" + a + ", " + b + ", " + c + ") answered " + answer;
        boolean asks = method >= 10 && method <= 17;
        boolean refused = answer < 0 && answer != THREW && !asks && method != 2;
        if ((asks || refused) && !before.equals(after)) {
            CHECK.due(about + " and changed\n" + before + "\nto\n" + after, 0, 1);
        }
        if (answer == THREW && !asks && method != 2) {
            CHECK.due(about, method, 4);
        }
        CHECK.due(about + ", and another time", call(twin, method, a, b, c), answer);
    }

    private static int call(RegionRestarts x, int method, int a, int b, int c) {
        switch (method) {
            case 0: return x.task(a, b, c);
            case 1: return x.channel(a, b, c % 3 != 0);
            case 2: return x.poison(a, b);
            case 3: return x.rule(b, a % 2 == 0);
            case 4: return x.step(a);
            case 5: return x.fail(a);
            case 6: return x.gone(c);
            case 7: return x.lose(a);
            case 8: return x.tick(a);
            case 9: return x.mark();
            case 10: return x.region(a);
            case 11: return x.taskAt(a, b);
            case 12: return x.channelAt(a, b);
            case 13: return x.row(a, b);
            case 14: return x.out(a, b);
            case 15: return x.aside(a, b);
            case 16: return x.cause(a, b);
            case 17: return x.told(a);
            default: return x.clear();
        }
    }
}
