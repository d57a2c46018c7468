import java.lang.reflect.Method;
import java.lang.reflect.Modifier;
import java.lang.reflect.Parameter;
import java.nio.charset.StandardCharsets;
import java.nio.file.Files;
import java.nio.file.Path;
import java.util.regex.Matcher;
import java.util.regex.Pattern;

/** README.md says what is so: its example answers as it is written there, each call has its row, each test its place. */
public final class ReadmeTest {
    private static final Pattern CALL = Pattern.compile("^x\\.(\\w+)\\(([^)]*)\\); +// (-?\\d+):");
    private static final Pattern FEED = Pattern.compile("^for \\(char sign : \"([^\"]+)\"\\.toCharArray\\(\\)\\) \\{$");
    private static final Pattern ROW = Pattern.compile("^\\| `(\\w+)\\(([^)]*)\\)` \\|.*\\|.*\\|$");

    public static void main(String[] args) throws Exception {
        Due due = new Due();
        String[] lines = Files.readString(Path.of("README.md"), StandardCharsets.UTF_8).split("\n");
        example(due, lines);
        rows(due, lines);
        constants(due, String.join("\n", lines));
        due.end();
    }

    private static void example(Due due, String[] lines) throws Exception {
        BearMouse x = new BearMouse();
        int calls = 0;
        for (String line : lines) {
            Matcher feed = FEED.matcher(line);
            if (feed.find()) {
                Due.feed(x, feed.group(1));
            }
            Matcher call = CALL.matcher(line);
            if (call.find()) {
                due.is(line, answer(x, call.group(1), call.group(2)), Long.parseLong(call.group(3)));
                calls++;
            }
            due.holds("a call of the example without its answer: " + line, !line.startsWith("x.") || call.find(0));
        }
        due.holds("there is an example", calls >= 10);
    }

    private static long answer(BearMouse x, String name, String told) throws Exception {
        String[] words = told.isEmpty() ? new String[0] : told.split(", ");
        Method call = named(name);
        Object[] args = new Object[words.length];
        for (int i = 0; i < words.length; i++) {
            Class<?> type = call.getParameterTypes()[i];
            if (type == boolean.class) {
                args[i] = words[i].equals("true");
            } else if (type == long.class) {
                args[i] = Long.parseLong(words[i]);
            } else {
                args[i] = Integer.parseInt(words[i]);
            }
        }
        return ((Number) call.invoke(x, args)).longValue();
    }

    private static Method named(String name) {
        for (Method m : BearMouse.class.getDeclaredMethods()) {
            if (Modifier.isPublic(m.getModifiers()) && m.getName().equals(name)) {
                return m;
            }
        }
        throw new IllegalStateException("README.md calls " + name + ", and there is no such call");
    }

    /** One row for each call of the face, with as many numbers as it takes. */
    private static void rows(Due due, String[] lines) {
        int rows = 0;
        for (String line : lines) {
            Matcher row = ROW.matcher(line);
            if (row.find()) {
                rows++;
                Parameter[] takes = named(row.group(1)).getParameters();
                int told = row.group(2).isEmpty() ? 0 : row.group(2).split(", ").length;
                due.is("numbers of " + row.group(1), told, takes.length);
            }
        }
        due.is("rows for the calls", rows, 42);
        for (Method m : BearMouse.class.getDeclaredMethods()) {
            if (Modifier.isPublic(m.getModifiers())) {
                int of = 0;
                for (String line : lines) {
                    of += line.startsWith("| `" + m.getName() + "(") ? 1 : 0;
                }
                due.is("rows for " + m.getName(), of, 1);
            }
        }
    }

    private static void constants(Due due, String text) {
        due.holds("NONE", text.contains("| " + BearMouse.NONE + " | `BearMouse.NONE` |"));
        due.holds("BAD", text.contains("| " + BearMouse.BAD + " | `BearMouse.BAD` |"));
        due.holds("STATE", text.contains("| " + BearMouse.STATE + " | `BearMouse.STATE` |"));
        due.holds("FULL", text.contains("| " + BearMouse.FULL + " | `BearMouse.FULL` |"));
        due.holds("NO", text.contains("| the least long | `BearMouse.NO` |"));
        due.holds("all tests", text.contains("\n.ci/run\n"));
        due.holds("one test alone", text.contains("java -cp /tmp/bear WaysTest\n"));
    }
}
