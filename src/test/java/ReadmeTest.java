import java.io.IOException;
import java.nio.file.Files;
import java.nio.file.Path;
import java.util.Set;
import java.util.TreeSet;
import java.util.regex.Matcher;
import java.util.regex.Pattern;

/** The example of README.md answers what it says there, and README.md tells of each method. */
public final class ReadmeTest {
    private static final Check CHECK = new Check();

    public static void main(String[] args) throws IOException {
        String readme = Files.readString(Path.of("README.md"));
        example(readme);
        methods(readme);
        CHECK.end();
    }

    private static void example(String readme) {
        RegionRestarts job = new RegionRestarts();
        int source = job.task(0, 5, 0);
        int total = job.task(3, 0, 1);
        int sink = job.task(5, 0, 2);
        CHECK.due("channels", job.channel(source, total, true), 0);
        CHECK.due("channels", job.channel(total, sink, false), 1);
        line(readme, "job.step(source);", job.step(source), 5);
        line(readme, "job.step(total);", job.step(total), 5);
        line(readme, "job.region(total);", job.region(total), 6);
        line(readme, "job.fail(total);", job.fail(total), 2);
        line(readme, "job.tick(1);", job.tick(1), 1);
        line(readme, "job.step(total);", job.step(total), 5);
        line(readme, "job.step(sink);", job.step(sink), 5);
        line(readme, "job.mark();", job.mark(), 1);
        line(readme, "job.out(sink, 4);", job.out(sink, 4), 30);
    }

    private static void line(String readme, String call, int got, int want) {
        CHECK.due(call, got, want);
        Pattern told = Pattern.compile(Pattern.quote(call) + " +// " + want + "\\b");
        CHECK.yes("README.md has '" + call + "  // " + want + "'", told.matcher(readme).find());
    }

    private static void methods(String readme) {
        Set<String> due = new TreeSet<>();
        for (java.lang.reflect.Method method : RegionRestarts.class.getDeclaredMethods()) {
            if (java.lang.reflect.Modifier.isPublic(method.getModifiers())) {
                due.add(method.getName());
            }
        }
        Set<String> told = new TreeSet<>();
        Matcher row = Pattern.compile("(?m)^\\| `(\\w+)\\(").matcher(readme);
        while (row.find()) {
            told.add(row.group(1));
        }
        CHECK.same("methods that README.md tells of", told.toString(), due.toString());
    }
}
