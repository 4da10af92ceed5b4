import java.io.File;
import java.lang.reflect.Method;
import java.nio.file.Files;
import java.nio.file.Path;
import java.util.Set;
import java.util.TreeSet;
import java.util.regex.Matcher;
import java.util.regex.Pattern;

/** README.md holds: each call that it shows answers what it says, it shows the whole face, and it names every test. */
public final class ReadmeTest {
    private static final Checks c = new Checks("ReadmeTest");

    public static void main(String[] args) throws Exception {
        Path project = Path.of(System.getProperty("project", "."));
        String readme = Files.readString(project.resolve("README.md"));
        Set<String> shown = example(readme);
        wholeFace(shown);
        constants(readme);
        tests(readme, project.resolve("src/test/java").toFile());
        classes(readme);
        c.end();
    }

    /** Runs the calls of the example in their order; tells their names. */
    private static Set<String> example(String readme) throws Exception {
        int begun = readme.indexOf("```java");
        int ended = readme.indexOf("```", begun + 3);
        c.holds("there is an example", begun >= 0 && ended > begun);
        String code = readme.substring(begun, ended);
        ThatchLane lane = new ThatchLane();
        Matcher text = Pattern.compile("\"([^\"]*)\"\\.toCharArray").matcher(code);
        c.holds("the example types a lane", text.find());
        Checks.type(lane, text.group(1));
        Set<String> shown = new TreeSet<>();
        Matcher calls = Pattern.compile("(?m)^lane\\.(\\w+)\\((.*?)\\); +// (-?\\d+): ").matcher(code);
        while (calls.find()) {
            shown.add(calls.group(1));
            String call = calls.group(1) + "(" + calls.group(2) + ")";
            c.due(call, answer(lane, calls.group(1), calls.group(2)), Long.parseLong(calls.group(3)));
        }
        long lines = code.lines().filter(line -> line.startsWith("lane.")).count();
        c.due("lines of the example that show an answer", Pattern.compile("(?m)^lane\\..*; +// -?\\d+: ").matcher(code)
            .results().count(), lines);
        return shown;
    }

    private static long answer(ThatchLane lane, String name, String given) throws Exception {
        String[] parts = given.isEmpty() ? new String[0] : given.split(", ");
        Object[] numbers = new Object[parts.length];
        Class<?>[] types = new Class<?>[parts.length];
        for (int i = 0; i < parts.length; i++) {
            boolean sign = parts[i].startsWith("'");
            numbers[i] = sign ? (int) parts[i].charAt(1) : Integer.parseInt(parts[i]);
            types[i] = int.class;
        }
        return ((Number) ThatchLane.class.getMethod(name, types).invoke(lane, numbers)).longValue();
    }

    private static void wholeFace(Set<String> shown) {
        for (Method method : ThatchLane.class.getDeclaredMethods()) {
            if (java.lang.reflect.Modifier.isPublic(method.getModifiers())) {
                c.holds("the example shows " + method.getName(), shown.contains(method.getName()));
            }
        }
    }

    private static void constants(String readme) {
        c.holds("UNKNOWN", readme.contains("| `UNKNOWN` | " + ThatchLane.UNKNOWN + " |"));
        c.holds("OUTSIDE", readme.contains("| `OUTSIDE` | " + ThatchLane.OUTSIDE + " |"));
        c.holds("STATE", readme.contains("| `STATE` | " + ThatchLane.STATE + " |"));
        c.holds("FULL", readme.contains("| `FULL` | " + ThatchLane.FULL + " |"));
        c.holds("NONE", readme.contains("`NONE` (" + ThatchLane.NONE + ")"));
    }

    /** Each test there is, is told, and each that is told, is there. */
    private static void tests(String readme, File folder) {
        Set<String> there = new TreeSet<>();
        String[] files = folder.list();
        for (String file : files == null ? new String[0] : files) {
            String name = file.replace(".java", "");
            there.add(name);
            c.holds("README.md names " + name, readme.contains("`" + name + "`"));
        }
        Matcher told = Pattern.compile("`(\\w+Test)`").matcher(readme);
        while (told.find()) {
            c.holds(told.group(1) + " is there", there.contains(told.group(1)));
        }
    }

    private static void classes(String readme) {
        for (Class<?> one : ThatchLane.class.getDeclaredClasses()) {
            c.holds("README.md names " + one.getSimpleName(), readme.contains("`" + one.getSimpleName() + "`"));
        }
    }
}
