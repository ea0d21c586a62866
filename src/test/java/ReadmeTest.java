import java.io.IOException;
import java.lang.reflect.InvocationTargetException;
import java.lang.reflect.Method;
import java.lang.reflect.Modifier;
import java.nio.file.Files;
import java.nio.file.Path;
import java.util.ArrayList;
import java.util.Arrays;
import java.util.List;
import java.util.regex.Matcher;
import java.util.regex.Pattern;

/** What README.md shows holds: each call of its example answers what stands behind it, and its tables are whole. */
public final class ReadmeTest {
    private static final String NEW_HOUSE = "JournalHouse house = new JournalHouse();";
    private static final Pattern CALL =
            Pattern.compile("(int file = )?house\\.(\\w+)\\((.*)\\); +// ([-\\w]+)(: .+)?");
    private static final Pattern ROW = Pattern.compile("\\| `(\\w+)\\((.*)\\)` \\|.*\\| ?(A, S|S|) ?\\|");

    private final Checks checks = new Checks();
    private final List<String> lines;
    private JournalHouse house;
    private String file = "";

    private ReadmeTest(List<String> lines) {
        this.lines = lines;
    }

    public static void main(String[] args) throws IOException {
        ReadmeTest test = new ReadmeTest(Files.readAllLines(Path.of("README.md")));
        test.exampleHolds();
        test.tableOfCallsIsTheFace();
        test.everyTestIsNamed();
        test.checks.finish();
    }

    private void exampleHolds() {
        List<String> called = new ArrayList<>();
        for (String line : example()) {
            Matcher call = CALL.matcher(line);
            if (line.equals(NEW_HOUSE)) {
                house = new JournalHouse();
            } else if (house != null && call.matches()) {
                String answer = answer(methodNamed(call.group(2)), call.group(3));
                if (call.group(1) != null) {
                    file = answer;
                }
                if (!answer.equals(call.group(4))) {
                    checks.complain("README.md: " + line + " answered " + answer);
                }
                called.add(call.group(2));
            } else if (!line.isEmpty()) {
                checks.complain("README.md: not a call with its answer: " + line);
            }
        }
        for (Method method : face()) {
            checks.yes("the example calls " + method.getName(), called.contains(method.getName()));
        }
    }

    private List<String> example() {
        int from = lines.indexOf("```java") + 1;
        int length = lines.subList(from, lines.size()).indexOf("```");
        return lines.subList(from, from + length);
    }

    private String answer(Method method, String text) {
        String[] texts = text.isEmpty() ? new String[0] : text.split(", ");
        Object[] arguments = new Object[texts.length];
        for (int i = 0; i < texts.length; i++) {
            arguments[i] = argument(texts[i]);
        }
        try {
            Object answer = method.invoke(house, arguments);
            return answer.equals(JournalHouse.NONE) ? "NONE" : answer.toString();
        } catch (InvocationTargetException e) {
            return e.getCause().getClass().getSimpleName();
        } catch (IllegalAccessException e) {
            throw new AssertionError(e);
        }
    }

    private Object argument(String text) {
        if (text.equals("true") || text.equals("false")) {
            return Boolean.valueOf(text);
        }
        return Integer.valueOf(text.equals("file") ? file : text);
    }

    private void tableOfCallsIsTheFace() {
        List<String> shown = new ArrayList<>();
        for (String line : lines) {
            Matcher row = ROW.matcher(line);
            if (row.matches()) {
                int arguments = row.group(2).isEmpty() ? 0 : row.group(2).split(", ").length;
                shown.add(row.group(1) + "/" + arguments + " " + row.group(3));
            }
        }
        List<String> due = new ArrayList<>();
        for (Method method : face()) {
            String[] thrown = {"", "S", "A, S"};
            due.add(method.getName() + "/" + method.getParameterCount() + " "
                    + thrown[method.getExceptionTypes().length]);
        }
        shown.sort(null);
        due.sort(null);
        if (!shown.equals(due)) {
            checks.complain("README.md's table of calls has " + shown + ", due is " + due);
        }
    }

    private void everyTestIsNamed() throws IOException {
        try (var files = Files.list(Path.of("src/test/java"))) {
            files.map(path -> path.getFileName().toString().replace(".java", ""))
                    .filter(name -> name.endsWith("Test"))
                    .forEach(name -> checks.yes("README.md has a row for " + name,
                            lines.stream().anyMatch(line -> line.startsWith("| `" + name + "` |"))));
        }
    }

    private static List<Method> face() {
        return Arrays.stream(JournalHouse.class.getDeclaredMethods())
                .filter(method -> Modifier.isPublic(method.getModifiers()))
                .toList();
    }

    private static Method methodNamed(String name) {
        return face().stream().filter(method -> method.getName().equals(name)).findFirst().orElseThrow();
    }
}
