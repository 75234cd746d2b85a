import java.io.IOException;
import java.lang.reflect.Method;
import java.nio.file.Files;
import java.nio.file.Path;
import java.util.Arrays;
import java.util.regex.Matcher;
import java.util.regex.Pattern;

/** Does the example of README.md line by line: each call answers what is told behind it. */
public final class ReadmeTest {
    private static final String FIRST_LINE = "StageHost host = new StageHost();";
    private static final String LAST_LINE = "```";
    private static final Pattern CALL = Pattern.compile("host\\.(\\w+)\\((.*)\\); *// (.*)");
    private static final Pattern NUMBER_FIRST = Pattern.compile("(-?\\d+).*");

    private ReadmeTest() {
    }

    /** Numbers, shifted or not, joined by |: as much as the example needs. */
    private static int valueOf(String argument) {
        int value = 0;
        for (String part : argument.split(" \\| ")) {
            String[] shifted = part.split(" << ");
            int by = shifted.length > 1 ? Integer.parseInt(shifted[1]) : 0;
            value |= Integer.parseInt(shifted[0]) << by;
        }
        return value;
    }

    private static Object[] valuesOf(String arguments) {
        if (arguments.isEmpty()) {
            return new Object[0];
        }
        return Arrays.stream(arguments.split(", ")).map(ReadmeTest::valueOf).toArray();
    }

    private static void doLine(StageHost host, String line) throws ReflectiveOperationException {
        Matcher call = CALL.matcher(line);
        Checks.due("\"" + line + "\" is a call with a comment", call.matches() ? 1 : 0, 1);
        Object[] values = valuesOf(call.group(2));
        Class<?>[] types = new Class<?>[values.length];
        Arrays.fill(types, int.class);
        Method method = StageHost.class.getMethod(call.group(1), types);
        Object answer = method.invoke(host, values);
        if (method.getReturnType() == int.class) {
            Matcher told = NUMBER_FIRST.matcher(call.group(3));
            Checks.due("\"" + line + "\" tells the answer", told.matches() ? 1 : 0, 1);
            Checks.due(line, (Integer) answer, Integer.parseInt(told.group(1)));
        }
    }

    public static void main(String[] args) throws IOException, ReflectiveOperationException {
        StageHost host = null;
        for (String line : Files.readAllLines(Path.of("README.md"))) {
            if (line.equals(FIRST_LINE)) {
                host = new StageHost();
            } else if (host != null && line.equals(LAST_LINE)) {
                break;
            } else if (host != null) {
                doLine(host, line);
            }
        }
        Checks.end();
    }
}
