import java.io.IOException;
import java.lang.reflect.Method;
import java.nio.file.Files;
import java.nio.file.Path;
import java.util.List;
import java.util.regex.Matcher;
import java.util.regex.Pattern;

/** The calls that README.md shows under "Use", made in their order, answer what stands behind them. */
public final class ReadmeTest extends Checks {
    private static final Pattern CALL = Pattern.compile("x\\.(\\w+)\\((.*?)\\); *// *(-?\\d+)\\b.*");

    private static long answer(LooksServed x, String name, String[] given) {
        for (Method m : LooksServed.class.getMethods()) {
            if (!m.getName().equals(name) || m.getParameterCount() != given.length) continue;
            Object[] args = new Object[given.length];
            for (int i = 0; i < given.length; i++) {
                long v = Long.decode(given[i].trim().replaceAll("L$", ""));
                if (m.getParameterTypes()[i] == int.class) args[i] = (int) v;
                else args[i] = v;
            }
            try {
                return (int) m.invoke(x, args);
            } catch (ReflectiveOperationException e) {
                throw new IllegalStateException(e);
            }
        }
        throw new IllegalStateException("there is no call " + name);
    }

    private static void follow(List<String> lines) {
        LooksServed x = new LooksServed();
        int calls = 0;
        for (String line : lines) {
            if (!line.startsWith("x.")) continue;
            Matcher call = CALL.matcher(line);
            if (!call.matches()) throw new IllegalStateException("not to be read: " + line);
            String[] given = call.group(2).isEmpty() ? new String[0] : call.group(2).split(",");
            due(line, answer(x, call.group(1), given), Long.parseLong(call.group(3)));
            calls++;
        }
        due("some calls", calls > 10 ? 1 : 0, 1);
    }

    public static void main(String[] args) throws IOException {
        List<String> lines = Files.readAllLines(Path.of("README.md"));
        test("README.md, Use", () -> follow(lines));
        finish("ReadmeTest");
    }
}
