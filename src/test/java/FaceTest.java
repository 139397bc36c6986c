import java.io.IOException;
import java.lang.reflect.Constructor;
import java.lang.reflect.Field;
import java.lang.reflect.Method;
import java.lang.reflect.Modifier;
import java.nio.file.Files;
import java.nio.file.Path;
import java.util.Set;
import java.util.TreeSet;
import java.util.regex.Matcher;
import java.util.regex.Pattern;

/** The public face of the document and no other, and words that LANGUAGE.md leaves out. */
public final class FaceTest {
    private static final Check CHECK = new Check();

    public static void main(String[] args) throws IOException {
        constants();
        members();
        names();
        words();
        CHECK.end();
    }

    private static void constants() {
        CHECK.due("UNKNOWN", RegionRestarts.UNKNOWN, -1);
        CHECK.due("OUTSIDE", RegionRestarts.OUTSIDE, -2);
        CHECK.due("STATE", RegionRestarts.STATE, -3);
        CHECK.due("ROOM", RegionRestarts.ROOM, -4);
        CHECK.due("THREW", RegionRestarts.THREW, -5);
        CHECK.due("NONE", RegionRestarts.NONE, -9);
    }

    private static void members() {
        Set<String> due = new TreeSet<>(Set.of("task(int,int,int)", "channel(int,int,boolean)",
                "poison(int,int)", "rule(int,boolean)", "step(int)", "fail(int)", "gone(int)"));
        due.addAll(Set.of("lose(int)", "tick(int)", "mark()", "region(int)", "taskAt(int,int)",
                "channelAt(int,int)", "row(int,int)", "out(int,int)"));
        due.addAll(Set.of("aside(int,int)", "cause(int,int)", "told(int)", "clear()"));
        Set<String> seen = new TreeSet<>();
        for (Method method : RegionRestarts.class.getDeclaredMethods()) {
            if (!Modifier.isPrivate(method.getModifiers())) {
                String text = method.toString();
                CHECK.due(text + " is public and answers an int",
                        text.startsWith("public int RegionRestarts.") ? 1 : 0, 1);
                seen.add(text.substring(text.indexOf('.') + 1));
            }
        }
        CHECK.due("methods " + seen, seen.equals(due) ? 1 : 0, 1);
        int visible = 0;
        for (Field field : RegionRestarts.class.getDeclaredFields()) {
            visible += Modifier.isPrivate(field.getModifiers()) ? 0 : 1;
        }
        CHECK.due("fields that are not private", visible, 6);
        Constructor<?>[] constructors = RegionRestarts.class.getDeclaredConstructors();
        CHECK.due("constructors", constructors.length, 1);
        CHECK.due("its parameters", constructors[0].getParameterCount(), 0);
        CHECK.due("final", Modifier.isFinal(RegionRestarts.class.getModifiers()) ? 1 : 0, 1);
    }

    private static void names() {
        Set<String> open = new TreeSet<>();
        for (Method method : RegionRestarts.class.getMethods()) {
            open.add(method.getName());
        }
        Class<?>[] inside = RegionRestarts.class.getDeclaredClasses();
        for (Class<?> one : inside) {
            CHECK.due(one + " is static", Modifier.isStatic(one.getModifiers()) ? 1 : 0, 1);
            CHECK.due(one + " has few fields", one.getDeclaredFields().length <= 20 ? 1 : 0, 1);
            for (Method method : one.getDeclaredMethods()) {
                CHECK.due(method + " bears a name of the face", open.contains(method.getName()) ? 1 : 0, 0);
            }
        }
        for (Method method : RegionRestarts.class.getDeclaredMethods()) {
            boolean both = Modifier.isPrivate(method.getModifiers()) && open.contains(method.getName());
            CHECK.due(method + " bears a name of the face", both ? 1 : 0, 0);
        }
        CHECK.due("classes inside are few", inside.length <= 11 ? 1 : 0, 1);
    }

    private static void words() throws IOException {
        String text = Files.readString(Path.of("src/main/java/RegionRestarts.java"));
        String code = text.replaceAll("(?s)/\\*.*?\\*/", "").replaceAll("//[^\n]*", "");
        Matcher bad = Pattern.compile("\\b(throw|throws|try|catch|finally|synchronized|assert|package|"
                + "import|Exact|Random|System|Thread)\\b|->|::").matcher(code);
        while (bad.find()) {
            CHECK.due("the program has '" + bad.group() + "'", 1, 0);
        }
        CHECK.due("characters beyond ASCII", text.chars().filter(c -> c > 126).count(), 0);
    }
}
