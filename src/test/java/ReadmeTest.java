import java.io.IOException;
import java.lang.reflect.InvocationTargetException;
import java.lang.reflect.Method;
import java.nio.file.Files;
import java.nio.file.Path;
import java.util.regex.Matcher;
import java.util.regex.Pattern;

/** README.md's examples: each call on a line of its own, made in their order, answers what stands behind it. */
public final class ReadmeTest {
    private static final Due DUE = new Due("readme");
    // x.name(arguments);  // "a text", or a number, or throws a name, and perhaps: what it means
    private static final Pattern CALL =
            Pattern.compile("x\\.(\\w+)\\((.*)\\);\\s*// (?:\"([^\"]*)\"|throws (\\w+)|([-\\w]+))(?:: .*)?");

    public static void main(String[] args) throws IOException, ReflectiveOperationException {
        Reelrow x = null;
        int calls = 0;
        for (String line : Files.readAllLines(Path.of("README.md"))) {
            Matcher call = CALL.matcher(line);
            if (line.equals("Reelrow x = new Reelrow();")) {
                x = new Reelrow();
            } else if (call.matches() && x != null) {
                DUE.is(line, answer(x, call.group(1), call.group(2)), due(call));
                calls++;
            } else {
                DUE.is("a call without its answer: " + line, line.startsWith("x."), false);
            }
        }
        DUE.is("there are examples", calls > 20, true);
        DUE.done();
    }

    private static String due(Matcher call) {
        if (call.group(3) != null) {
            return call.group(3);
        }
        return call.group(4) != null ? call.group(4) : call.group(5);
    }

    private static String answer(Reelrow x, String name, String arguments) throws ReflectiveOperationException {
        String[] texts = arguments.isEmpty() ? new String[0] : arguments.split(", ");
        for (Method method : Reelrow.class.getMethods()) {
            if (method.getDeclaringClass() == Reelrow.class && method.getName().equals(name)) {
                try {
                    return String.valueOf(method.invoke(x, values(method.getParameterTypes(), texts)));
                } catch (InvocationTargetException thrown) {
                    return thrown.getCause().getClass().getSimpleName();
                }
            }
        }
        return "no such method";
    }

    private static Object[] values(Class<?>[] types, String[] texts) {
        Object[] values = new Object[texts.length];
        for (int i = 0; i < texts.length; i++) {
            values[i] = types[i] == boolean.class ? (Object) Boolean.valueOf(texts[i]) : Integer.valueOf(texts[i]);
        }
        return values;
    }
}
