import java.io.IOException;
import java.lang.reflect.InvocationTargetException;
import java.lang.reflect.Method;
import java.nio.file.Files;
import java.nio.file.Path;
import java.util.ArrayList;
import java.util.List;
import java.util.regex.Matcher;
import java.util.regex.Pattern;

/** The example in README.md answers what its comments say, and README.md names every call. */
public final class ReadmeTest {
    private static final Pattern CALL =
            Pattern.compile("x\\.(\\w+)\\((.*)\\); *// ([^:]+)(: .*)?");

    private final Checks checks = new Checks("ReadmeTest");
    private final List<String> lines;

    private ReadmeTest(List<String> lines) {
        this.lines = lines;
    }

    public static void main(String[] args) throws IOException {
        ReadmeTest test = new ReadmeTest(Files.readAllLines(Path.of("README.md")));
        test.theExampleIsTrue();
        test.everyCallIsNamed();
        test.checks.close();
    }

    private void theExampleIsTrue() {
        LaneTrunks x = new LaneTrunks();
        for (String line : lines.subList(lines.indexOf("```java") + 2, lines.lastIndexOf("```"))) {
            Matcher call = CALL.matcher(line);
            boolean isCall = call.matches();
            checks.due("a call and its answer: " + line, true, () -> isCall);
            if (isCall) {
                checks.due(line, call.group(3), () -> answer(x, call.group(1), call.group(2)));
            }
        }
    }

    private void everyCallIsNamed() {
        for (Method method : LaneTrunks.class.getDeclaredMethods()) {
            if (java.lang.reflect.Modifier.isPublic(method.getModifiers())) {
                String start = "| `" + method.getName() + "(";
                checks.due("a row of " + method.getName(), 1L,
                        () -> lines.stream().filter(line -> line.startsWith(start)).count());
            }
        }
    }

    private static Object answer(LaneTrunks x, String name, String arguments) {
        List<Object> values = new ArrayList<>();
        for (String text : arguments.isEmpty() ? new String[0] : arguments.split(", ")) {
            boolean isFlag = text.equals("true") || text.equals("false");
            values.add(isFlag ? (Object) Boolean.valueOf(text) : (Object) Integer.valueOf(text));
        }
        try {
            return method(name).invoke(x, values.toArray());
        } catch (InvocationTargetException e) {
            return e.getCause().getClass().getSimpleName();
        } catch (IllegalAccessException e) {
            throw new IllegalStateException(e);
        }
    }

    private static Method method(String name) {
        for (Method method : LaneTrunks.class.getDeclaredMethods()) {
            if (method.getName().equals(name)) {
                return method;
            }
        }
        throw new IllegalStateException("no method " + name);
    }
}
