import java.io.IOException;
import java.lang.reflect.InvocationTargetException;
import java.lang.reflect.Method;
import java.lang.reflect.Modifier;
import java.nio.file.Files;
import java.nio.file.Path;
import java.util.Arrays;
import java.util.Set;
import java.util.TreeSet;
import java.util.regex.Matcher;
import java.util.regex.Pattern;

/** The example of README.md: each call that it tells, with the answer that it tells behind it. */
public final class ReadmeTest {
    private static final Pattern CALL =
        Pattern.compile("(?m)^(?:desk\\.(\\w+)\\(([^)\"]*)\\)|tell\\(desk, \"([^\"]*)\"\\)); +// (-?\\d+|\\w+)");
    private static final Checks CHECKS = new Checks();

    public static void main(String[] args) throws IOException, IllegalAccessException {
        String readme = Files.readString(Path.of("README.md"));
        String example = readme.substring(readme.indexOf("## An example"), readme.indexOf("## Tests"));
        DeferredDesk desk = new DeferredDesk();
        Matcher call = CALL.matcher(example);
        int calls = 0;
        while (call.find()) {
            calls++;
            String got = call.group(3) != null ? "" + Checks.read(desk, call.group(3)) : answer(desk, call.group(1), call.group(2));
            CHECKS.due(call.group() + " (it answered " + got + ")", got.equals(call.group(4)) ? 1 : 0, 1);
        }
        long lines = example.lines().filter(line -> line.startsWith("desk.") || line.startsWith("tell(")).count();
        CHECKS.due("every line of the example is a call with its answer", calls, lines);
        CHECKS.due("there are some", calls > 15 ? 1 : 0, 1);
        everyMethodIsTold(readme);
        CHECKS.finish();
    }

    private static String answer(DeferredDesk desk, String name, String arguments) throws IllegalAccessException {
        String[] told = arguments.isEmpty() ? new String[0] : arguments.split(", ");
        for (Method method : DeferredDesk.class.getMethods()) {
            if (method.getName().equals(name) && method.getParameterCount() == told.length) {
                try {
                    return "" + method.invoke(desk, Arrays.stream(told).map(ReadmeTest::value).toArray());
                } catch (InvocationTargetException e) {
                    return e.getCause().getClass().getSimpleName();
                }
            }
        }
        return "no such method";
    }

    private static Object value(String told) {
        return told.equals("true") || told.equals("false") ? (Object) Boolean.valueOf(told) : (Object) Integer.valueOf(told);
    }

    private static void everyMethodIsTold(String readme) {
        Set<String> untold = new TreeSet<>();
        for (Method method : DeferredDesk.class.getDeclaredMethods()) {
            if (Modifier.isPublic(method.getModifiers()) && !readme.contains(method.getName() + "(")) {
                untold.add(method.getName());
            }
        }
        CHECKS.due("methods of which README.md says nothing: " + untold, untold.size(), 0);
    }
}
