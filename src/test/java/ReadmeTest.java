import java.io.IOException;
import java.lang.reflect.Method;
import java.nio.file.Files;
import java.nio.file.Path;
import java.util.List;
import java.util.regex.Matcher;
import java.util.regex.Pattern;

/** The examples of README.md answer what README.md says; run at the root of the project. */
public final class ReadmeTest {
    private static final Due DUE = new Due();
    private static final String MADE = "PuppetPitches promenade = new PuppetPitches();";
    private static final Pattern CALL = Pattern.compile("promenade\\.(\\w+)\\(([^)]*)\\);\\s*// (-?\\d+)(: .*)?");
    private static final Pattern ERROR = Pattern.compile("\\| (-\\d) \\| `(\\w+)` \\|.*");

    public static void main(String[] args) throws IOException, ReflectiveOperationException {
        List<String> lines = Files.readAllLines(Path.of("README.md"));
        PuppetPitches promenade = new PuppetPitches();
        boolean isExample = false;
        int calls = 0;
        int errors = 0;
        for (String line : lines) {
            Matcher error = ERROR.matcher(line);
            if (line.startsWith("```")) {
                isExample = line.equals("```java");
            } else if (isExample && !line.equals(MADE)) {
                calls++;
                ask(promenade, line);
            } else if (error.matches()) {
                errors++;
                DUE.is("the code of " + error.group(2), constant(error.group(2)), Integer.parseInt(error.group(1)));
            }
        }
        DUE.is("there are examples", calls >= 30 ? 1 : 0, 1);
        DUE.is("all errors are told", errors, 5);
        DUE.end();
    }

    private static void ask(PuppetPitches promenade, String line) throws ReflectiveOperationException {
        Matcher call = CALL.matcher(line);
        DUE.is("can be read: " + line, call.matches() ? 1 : 0, 1);
        if (call.matches()) {
            String[] told = call.group(2).isEmpty() ? new String[0] : call.group(2).split(", ");
            for (Method method : PuppetPitches.class.getMethods()) {
                if (method.getName().equals(call.group(1)) && method.getParameterCount() == told.length) {
                    int answer = (Integer) method.invoke(promenade, arguments(method, told));
                    DUE.is(line.strip(), answer, Integer.parseInt(call.group(3)));
                    return;
                }
            }
            DUE.is("there is such a call: " + line, 0, 1);
        }
    }

    private static Object[] arguments(Method method, String[] told) throws ReflectiveOperationException {
        Object[] arguments = new Object[told.length];
        for (int i = 0; i < told.length; i++) {
            Class<?> type = method.getParameterTypes()[i];
            if (type == boolean.class) {
                arguments[i] = Boolean.valueOf(told[i]);
            } else if (type == long.class) {
                arguments[i] = Long.decode(told[i].replace("L", ""));
            } else {
                arguments[i] = number(told[i]);
            }
        }
        return arguments;
    }

    private static int number(String told) throws ReflectiveOperationException {
        return told.startsWith("PuppetPitches.") ? constant(told.substring(told.indexOf('.') + 1)) : Integer.parseInt(told);
    }

    private static int constant(String name) throws ReflectiveOperationException {
        return PuppetPitches.class.getField(name).getInt(null);
    }
}
