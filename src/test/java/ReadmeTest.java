import java.io.IOException;
import java.lang.reflect.InvocationTargetException;
import java.lang.reflect.Method;
import java.nio.file.Files;
import java.nio.file.Path;
import java.util.List;
import java.util.regex.Matcher;
import java.util.regex.Pattern;

/**
 * The example of README.md: makes its calls, line by line, and holds each answer against the one
 * that stands behind the call. It is run from the project's folder.
 */
public final class ReadmeTest {
    private static final String FIRST_LINE = "PetitionBox box = new PetitionBox();";
    /** A call, its arguments, and its answer, behind which words may follow. */
    private static final Pattern LINE =
            Pattern.compile("box\\.(\\w+)\\((.*?)\\); +// (-?[0-9.]+|throws \\w+)(:.*)?");

    public static void main(String[] args) throws IOException, IllegalAccessException {
        Checks c = new Checks();
        List<String> lines = Files.readAllLines(Path.of("README.md"));
        int first = lines.indexOf(FIRST_LINE);
        if (first < 0) {
            c.fail("README.md has no line " + FIRST_LINE);
        } else {
            makeCalls(c, lines.subList(first + 1, lines.size()));
        }
        c.finish();
    }

    private static void makeCalls(Checks c, List<String> lines)
            throws IllegalAccessException {
        PetitionBox box = new PetitionBox();
        int calls = 0;
        for (String line : lines) {
            if (line.equals("```")) {
                break;
            }
            calls++;
            Matcher parts = LINE.matcher(line);
            if (!parts.matches()) {
                c.fail("not a call with its answer: " + line);
                continue;
            }
            String got = outcome(box, parts.group(1), parts.group(2));
            if (!got.equals(parts.group(3))) {
                c.fail(line + " <- answered " + got);
            }
        }
        c.differ("the calls of the example and their absence", calls, 0);
    }

    private static String outcome(PetitionBox box, String name, String arguments)
            throws IllegalAccessException {
        Object[] values = values(arguments);
        for (Method method : PetitionBox.class.getMethods()) {
            if (!method.getName().equals(name) || method.getParameterCount() != values.length) {
                continue;
            }
            try {
                return String.valueOf(method.invoke(box, values));
            } catch (InvocationTargetException e) {
                return "throws " + e.getCause().getClass().getSimpleName();
            }
        }
        return "no such call";
    }

    /** Numbers, or a sign between quotation marks. */
    private static Object[] values(String arguments) {
        if (arguments.isEmpty()) {
            return new Object[0];
        }
        if (arguments.startsWith("'")) {
            return new Object[] {(int) arguments.charAt(1)};
        }
        String[] words = arguments.split(", ");
        Object[] values = new Object[words.length];
        for (int i = 0; i < words.length; i++) {
            values[i] = Integer.parseInt(words[i]);
        }
        return values;
    }
}
