import java.io.IOException;
import java.lang.reflect.Method;
import java.nio.file.Files;
import java.nio.file.Path;
import java.util.ArrayList;
import java.util.List;
import java.util.regex.Matcher;
import java.util.regex.Pattern;

/** The calls in README.md answer what stands behind them there. */
public final class ReadmeExample {
    private static final Pattern CALL = Pattern.compile("x\\.(\\w+)\\((.*)\\); +// (?:(-?\\d+)(?:: .*)?|\\D.*)");

    public static void main(String[] args) throws IOException, ReflectiveOperationException {
        Check check = new Check();
        EditorPanels x = new EditorPanels(24);
        int calls = 0;
        for (String row : Files.readAllLines(Path.of("README.md"))) {
            if (!row.startsWith("x.")) {
                continue;
            }
            calls++;
            Matcher matcher = CALL.matcher(row);
            boolean read = matcher.matches();
            check.due("a call that can be read: " + row, read ? 1 : 0, 1);
            if (read) {
                Object answer = call(x, matcher.group(1), matcher.group(2));
                check.due(row, String.valueOf(answer), String.valueOf(matcher.group(3)));
            }
        }
        check.due("README.md has calls", calls > 0 ? 1 : 0, 1);
        check.end();
    }

    private static Object call(EditorPanels x, String name, String written) throws ReflectiveOperationException {
        List<Object> arguments = new ArrayList<>();
        for (String argument : written.isEmpty() ? new String[0] : written.split(", ")) {
            arguments.add(valueOf(argument));
        }
        for (Method method : EditorPanels.class.getMethods()) {
            if (method.getName().equals(name)) {
                return method.invoke(x, arguments.toArray());
            }
        }
        throw new NoSuchMethodException(name);
    }

    private static Object valueOf(String argument) {
        if (argument.equals("true") || argument.equals("false")) {
            return Boolean.valueOf(argument);
        }
        if (argument.startsWith("'")) {
            return (int) argument.charAt(1);
        }
        String[] parts = argument.split(" [+*] ");
        return parts.length == 3 ? Integer.parseInt(parts[0]) + Integer.parseInt(parts[1]) * Integer.parseInt(parts[2])
                : Integer.parseInt(argument);
    }
}
