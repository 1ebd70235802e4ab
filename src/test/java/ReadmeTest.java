import java.io.IOException;
import java.lang.reflect.Method;
import java.lang.reflect.Modifier;
import java.nio.file.Files;
import java.nio.file.Path;
import java.util.List;
import java.util.regex.Matcher;
import java.util.regex.Pattern;

/** README.md tells the class as it is; run from the project's folder. */
public final class ReadmeTest {
    private static final Pattern TOLD = Pattern.compile("tell\\(x, \"([^\"]*)\"\\);.*");
    private static final Pattern ASKED = Pattern.compile("x\\.(\\w+)\\(([-0-9, ]*)\\); +// (-?\\d+)\\b.*");

    public static void main(String[] args) throws IOException, ReflectiveOperationException {
        Check check = new Check();
        List<String> lines = Files.readAllLines(Path.of("README.md"));
        check.about("README.md, the example");
        runExample(check, lines);
        check.about("README.md, the calls");
        for (Method m : PursesByLot.class.getDeclaredMethods()) {
            if (Modifier.isPublic(m.getModifiers())) {
                check.due("rows of " + m.getName(), rowsOf(m, lines), 1);
            }
        }
        check.end("ReadmeTest");
    }

    private static void runExample(Check check, List<String> lines) throws ReflectiveOperationException {
        PursesByLot x = new PursesByLot();
        int calls = 0;
        for (String line : lines) {
            Matcher told = TOLD.matcher(line);
            Matcher asked = ASKED.matcher(line);
            if (told.matches()) {
                Check.tell(x, told.group(1));
            } else if (asked.matches()) {
                check.due(line, answer(x, asked.group(1), asked.group(2)), Integer.parseInt(asked.group(3)));
                calls++;
            } else {
                check.due("a call that is not run: " + line, line.startsWith("x.") ? 1 : 0, 0);
            }
        }
        check.due("an example of some length", calls >= 10 ? 1 : 0, 1);
    }

    /** All calls of the example take ints alone; write is told by tell. */
    private static int answer(PursesByLot x, String name, String numbers) throws ReflectiveOperationException {
        String[] parts = numbers.isEmpty() ? new String[0] : numbers.split(", ");
        Class<?>[] types = new Class<?>[parts.length];
        Object[] values = new Object[parts.length];
        for (int i = 0; i < parts.length; i++) {
            types[i] = int.class;
            values[i] = Integer.parseInt(parts[i]);
        }
        return (Integer) PursesByLot.class.getMethod(name, types).invoke(x, values);
    }

    /** Rows of the table of calls that tell this one, with as many numbers as it takes. */
    private static int rowsOf(Method m, List<String> lines) {
        int rows = 0;
        for (String line : lines) {
            Matcher row = Pattern.compile("\\| `" + m.getName() + "\\(([^)]*)\\)` \\|.*").matcher(line);
            if (row.matches()) {
                int numbers = row.group(1).isEmpty() ? 0 : row.group(1).split(", ").length;
                rows += numbers == m.getParameterCount() ? 1 : 100;
            }
        }
        return rows;
    }
}
