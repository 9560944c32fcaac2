import java.io.IOException;
import java.lang.reflect.InvocationTargetException;
import java.lang.reflect.Method;
import java.lang.reflect.Modifier;
import java.nio.file.Files;
import java.nio.file.Path;
import java.util.ArrayList;
import java.util.Arrays;
import java.util.HashMap;
import java.util.List;
import java.util.Map;
import java.util.regex.Matcher;
import java.util.regex.Pattern;

/** README.md: its examples, call by call, with the answers that it gives; and that it tells all that it should. */
public final class ReadmeTest {
    private static final Checks CHECKS = new Checks();
    private static final Pattern EXAMPLE = Pattern.compile("(?ms)^```java\n(.*?)^```$");
    private static final Pattern NEW_OBJECT = Pattern.compile("DeltaPress (\\w+) = new DeltaPress\\(\\);");
    private static final Pattern CALL = Pattern.compile(
            "(\\w+)\\.(\\w+)\\(([^()]*)\\); +// (no answer|-?\\d+|throws \\w+): .+");
    private static final Pattern NUMBER = Pattern.compile("0x[0-9a-f]{1,8}|-?\\d{1,9}");

    private final Map<String, DeltaPress> objects = new HashMap<>();
    /** Each call of the examples with what came of it, as "end 17" or "end throws IllegalArgumentException". */
    private final List<String> seen = new ArrayList<>();

    public static void main(String[] args) throws IOException {
        String readme = Files.readString(Path.of("README.md"));
        ReadmeTest examples = new ReadmeTest();
        Matcher block = EXAMPLE.matcher(readme);
        while (block.find()) {
            block.group(1).lines().forEach(examples::line);
        }
        examples.haveAllCalls();
        tellsAllCalls(readme);
        CHECKS.due("README.md has the command .ci/run (1, else 0):", readme.contains("\n    .ci/run\n") ? 1 : 0, 1);
        CHECKS.due(".ci/run can be run (1, else 0):", Files.isExecutable(Path.of(".ci/run")) ? 1 : 0, 1);
        CHECKS.finish();
    }

    private void line(String line) {
        Matcher made = NEW_OBJECT.matcher(line);
        Matcher call = CALL.matcher(line);
        if (made.matches()) {
            objects.put(made.group(1), new DeltaPress());
        } else if (call.matches() && objects.containsKey(call.group(1))) {
            String got = outcome(objects.get(call.group(1)), call.group(2), numbers(call.group(3)));
            CHECKS.due(line, got, call.group(4));
            seen.add(call.group(2) + " " + got);
        } else {
            CHECKS.due(line, "what is no call with an answer", "a call with its answer, or a new object");
        }
    }

    private static Object[] numbers(String list) {
        return Arrays.stream(list.isEmpty() ? new String[0] : list.split(", ")).map(ReadmeTest::number).toArray();
    }

    private static Integer number(String word) {
        CHECKS.due(word + " is a number (1, else 0):", NUMBER.matcher(word).matches() ? 1 : 0, 1);
        return Long.decode(word).intValue();
    }

    private static String outcome(DeltaPress x, String name, Object[] numbers) {
        Class<?>[] types = new Class<?>[numbers.length];
        Arrays.fill(types, int.class);
        try {
            Object answer = DeltaPress.class.getMethod(name, types).invoke(x, numbers);
            return answer == null ? "no answer" : answer.toString();
        } catch (InvocationTargetException e) {
            return "throws " + e.getCause().getClass().getSimpleName();
        } catch (ReflectiveOperationException e) {
            return "that there is no such call";
        }
    }

    /** Each call of the face is there, and with each exception that it may throw. */
    private void haveAllCalls() {
        for (Method method : DeltaPress.class.getDeclaredMethods()) {
            String name = method.getName();
            if (Modifier.isPublic(method.getModifiers())) {
                dueSeen(name + " -?\\d+|" + name + " no answer");
                for (Class<?> thrown : method.getExceptionTypes()) {
                    dueSeen(name + " throws " + thrown.getSimpleName());
                }
            }
        }
    }

    private void dueSeen(String pattern) {
        boolean isThere = seen.stream().anyMatch(call -> call.matches(pattern));
        CHECKS.due("an example has " + pattern + " (1, else 0):", isThere ? 1 : 0, 1);
    }

    /** Each line of the document's face has a row of the table, which names the exception as well. */
    private static void tellsAllCalls(String readme) throws IOException {
        for (String line : Document.face()) {
            String[] parts = line.replace("public ", "").replace(";", "").split(" throws ");
            String row = readme.lines().filter(one -> one.startsWith("| `" + parts[0] + "` |")).findFirst().orElse("");
            CHECKS.due("rows of README.md on " + parts[0], row.isEmpty() ? 0 : 1, 1);
            if (parts.length > 1) {
                CHECKS.due("the row of " + parts[0] + " tells its exception (1, else 0):",
                        row.contains(": `" + parts[1] + "` |") ? 1 : 0, 1);
            }
        }
    }
}
