import java.util.function.Supplier;
import java.util.function.ToIntFunction;

/**
 * Two objects behind the same calls, of which only the first one is given the calls that must be
 * refused. What such a call changed shows as a difference: at once, or in what the two answer then.
 */
final class Twins {
    private final Check check;
    private final String about;
    private final RegionRestarts asked;
    private final RegionRestarts spared;

    Twins(Check check, String about, Supplier<RegionRestarts> job) {
        this.check = check;
        this.about = about + ": ";
        asked = job.get();
        spared = job.get();
    }

    Twins refused(String call, int due, ToIntFunction<RegionRestarts> made) {
        check.due(about + call, made.applyAsInt(asked), due);
        return this;
    }

    Twins due(String call, int due, ToIntFunction<RegionRestarts> made) {
        check.due(about + call, made.applyAsInt(asked), due);
        check.due(about + call + ", without refused calls", made.applyAsInt(spared), due);
        return this;
    }

    Twins both(String call, ToIntFunction<RegionRestarts> made) {
        check.due(about + call + ", and without refused calls",
                made.applyAsInt(asked), made.applyAsInt(spared));
        return this;
    }

    /** For objects so large that a look takes most of the 512 calls that are promised. */
    void endAtOnce() {
        same("at once");
    }

    /** Looks at both, and leads them on so that what no call tells (THE MARK, DRAWN, ..) shows too. */
    void end() {
        same("at once");
        int tasks = spared.told(0);
        for (int t = 0; t < tasks; t++) {
            int task = t;
            both("fail(" + t + ")", x -> x.fail(task));
        }
        same("begun again");
        both("tick(16)", x -> x.tick(16));
        for (int t = 0; t < tasks; t++) {
            int task = t;
            both("poison(" + t + ", 3)", x -> x.poison(task, 3));
        }
        for (int t = 0; t < tasks; t++) {
            int task = t;
            both("step(" + t + ")", x -> x.step(task));
        }
        for (int n = 0; n < 4; n++) {
            int node = n;
            both("gone(" + n + ")", x -> x.gone(node));
        }
        both("rule(9, true)", x -> x.rule(9, true));
        same("led on");
    }

    private void same(String when) {
        check.same(about + when, Jobs.look(asked), Jobs.look(spared));
    }
}
