import java.io.IOException;
import java.lang.reflect.InvocationTargetException;
import java.lang.reflect.Method;
import java.nio.file.Files;
import java.nio.file.Path;
import java.util.ArrayList;
import java.util.List;
import java.util.regex.Matcher;
import java.util.regex.Pattern;

/** What README.md says that its calls answer, they answer. */
public final class ReadmeTest extends Checks {
    private static final Pattern CALL = Pattern.compile("^rows\\.(\\w+)\\((.*)\\); +// (-?\\d+)\\b.*$");
    private static final Pattern TEXT = Pattern.compile("feed\\(rows, \"([^\"]*)\"\\)");
    private static final int LEAST_CALLS = 30;

    public static void main(String[] args) throws IOException, IllegalAccessException, InvocationTargetException {
        tested = "README.md";
        UnpatternedRows rows = new UnpatternedRows();
        int calls = 0;
        for (String line : Files.readAllLines(Path.of("README.md"))) {
            Matcher call = CALL.matcher(line);
            if (call.matches()) {
                calls++;
                due(line, answer(rows, call.group(1), call.group(2)), Long.parseLong(call.group(3)));
            } else if (line.startsWith("rows.")) {
                fail("no call with its answer: " + line);
            }
        }
        if (calls < LEAST_CALLS) {
            fail("only " + calls + " calls were found");
        }
        end();
    }

    private static long answer(UnpatternedRows rows, String name, String told) throws IllegalAccessException, InvocationTargetException {
        Matcher text = TEXT.matcher(told);
        String plain = text.find() ? text.replaceFirst(String.valueOf(text(rows, text.group(1)))) : told;
        List<Object> arguments = new ArrayList<>();
        for (String one : plain.isEmpty() ? new String[0] : plain.split(", ")) {
            if (one.equals("true") || one.equals("false")) {
                arguments.add(one.equals("true"));
            } else {
                arguments.add(Integer.decode(one));
            }
        }
        for (Method method : UnpatternedRows.class.getMethods()) {
            if (method.getName().equals(name)) {
                return ((Number) method.invoke(rows, arguments.toArray())).longValue();
            }
        }
        fail("no call " + name);
        return 0;
    }
}
