import java.io.IOException;
import java.lang.reflect.Method;
import java.nio.file.Files;
import java.nio.file.Path;
import java.util.Set;
import java.util.TreeSet;
import java.util.regex.Matcher;
import java.util.regex.Pattern;

/** The calls of README.md answer what stands behind them there; run from the project's folder. */
public final class ReadmeTest {
    private static final Due due = new Due("ReadmeTest");
    private static final Pattern CALL = Pattern.compile("^x\\.(\\w+)\\((.*)\\); +// (-?\\d+)\\b.*$");

    public static void main(String[] args) throws IOException, ReflectiveOperationException {
        MoveMakers x = new MoveMakers();
        Set<String> shown = new TreeSet<>();
        for (String line : Files.readAllLines(Path.of("README.md"))) {
            Matcher call = CALL.matcher(line);
            if (call.matches()) {
                shown.add(call.group(1));
                due.is(line, answer(x, method(call.group(1)), call.group(2)), Integer.parseInt(call.group(3)));
            } else {
                due.holds("a call with its answer: " + line, !line.startsWith("x."));
            }
        }
        due.is("calls of the face that are shown", shown.size(), 16);
        due.end();
    }

    private static Method method(String name) {
        for (Method method : MoveMakers.class.getMethods()) {
            if (method.getName().equals(name)) {
                return method;
            }
        }
        throw new IllegalArgumentException("no such call: " + name);
    }

    private static int answer(MoveMakers x, Method method, String written) throws ReflectiveOperationException {
        Class<?>[] types = method.getParameterTypes();
        String[] numbers = types.length == 0 ? new String[0] : written.split(", ");
        Object[] given = new Object[types.length];
        for (int at = 0; at < types.length; at++) {
            given[at] = argument(types[at], numbers[at]);
        }
        return (int) method.invoke(x, given);
    }

    private static Object argument(Class<?> type, String written) {
        if (type == boolean.class) {
            return Boolean.valueOf(written);
        }
        if (type == long.class) {
            return Long.valueOf(written.replace("L", ""));
        }
        return Integer.valueOf(written);
    }
}
