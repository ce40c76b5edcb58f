import java.io.IOException;
import java.lang.reflect.Method;
import java.nio.file.Files;
import java.nio.file.Path;
import java.util.ArrayList;
import java.util.HashMap;
import java.util.List;
import java.util.Map;
import java.util.Set;
import java.util.TreeSet;
import java.util.regex.Matcher;
import java.util.regex.Pattern;

/** README.md: each example's call gives the answer behind it, and each call of the face has a heading and an example. */
public final class ReadmeTest {
    private static final Pattern EXAMPLE = Pattern.compile(
            "(?:int (\\w+) = )?(?:System\\.out\\.println\\()?site\\.(\\w+)\\(([^()]*)\\)\\)?;\\s+// (.*)");
    private static final Pattern DUE = Pattern.compile("(?:throws (\\w+)|(-?\\d+))(?:: .*)?");
    private static final Pattern HEADING = Pattern.compile("### (\\w+)\\(.*\\)");

    private static final Map<String, String> variables = new HashMap<>();
    private static final Set<String> exampled = new TreeSet<>();
    private static final Set<String> thrown = new TreeSet<>();
    private static Site site = new Site("README.md");

    public static void main(String[] args) throws IOException {
        List<String> lines = Files.readAllLines(Path.of("README.md"));
        for (String line : javaLines(lines)) {
            if (line.contains("new Yarncourt()")) {
                site = new Site("README.md");
                variables.clear();
            } else if (line.contains("site")) {
                example(line.trim());
            }
        }
        Site.check("calls with an example", face(), exampled);
        Site.check("exceptions with an example", Set.of(Scene.INDEX, Scene.ARGUMENT, Scene.STATE), thrown);
        Set<String> headings = headings(lines);
        Site.check("a heading for the constructor", true, headings.remove("Yarncourt"));
        Site.check("calls with a heading", face(), headings);
        Site.end();
    }

    private static List<String> javaLines(List<String> lines) {
        List<String> found = new ArrayList<>();
        boolean inside = false;
        for (String line : lines) {
            if (line.startsWith("```")) {
                inside = line.equals("```java");
            } else if (inside) {
                found.add(line);
            }
        }
        return found;
    }

    private static void example(String line) {
        Matcher call = EXAMPLE.matcher(line);
        Matcher due = call.matches() ? DUE.matcher(call.group(4)) : null;
        if (due == null || !due.matches()) {
            Site.fail(line, "this is no example of a call with its answer");
            return;
        }
        String want = due.group(1) == null ? due.group(2) : due.group(1);
        site.expect(want, call.group(2) + "(" + numbers(call.group(3)) + ")");
        exampled.add(call.group(2));
        if (due.group(1) != null) {
            thrown.add(want);
        }
        if (call.group(1) != null) {
            variables.put(call.group(1), want);
        }
    }

    private static String numbers(String arguments) {
        List<String> numbers = new ArrayList<>();
        for (String argument : arguments.split(",")) {
            String name = argument.trim();
            numbers.add(variables.getOrDefault(name, name));
        }
        return String.join(", ", numbers);
    }

    private static Set<String> face() {
        Set<String> names = new TreeSet<>();
        for (Method method : Yarncourt.class.getMethods()) {
            if (method.getDeclaringClass() == Yarncourt.class) {
                names.add(method.getName());
            }
        }
        return names;
    }

    private static Set<String> headings(List<String> lines) {
        Set<String> names = new TreeSet<>();
        for (String line : lines) {
            Matcher heading = HEADING.matcher(line);
            if (heading.matches()) {
                names.add(heading.group(1));
            }
        }
        return names;
    }
}
