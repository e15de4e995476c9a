import java.io.IOException;
import java.lang.reflect.InvocationTargetException;
import java.lang.reflect.Method;
import java.nio.file.Files;
import java.nio.file.Path;
import java.util.Arrays;
import java.util.TreeSet;
import java.util.regex.Matcher;
import java.util.regex.Pattern;

/** The example in README.md: each of its calls answers or throws what is written behind it. */
public final class ReadmeTest {
    private static final Pattern CALL = Pattern.compile("reader\\.(\\w+)\\(([^)]*)\\); +// ([-\\w]+)(: .*)?");

    public static void main(String[] args) throws IOException {
        String[] lines = example(Files.readString(Path.of("README.md")));
        Check.same("its first line makes an object: " + lines[0],
                lines[0].equals("WasmReader reader = new WasmReader();") ? 1 : 0, 1);
        WasmReader reader = new WasmReader();
        TreeSet<String> called = new TreeSet<>();
        for (int n = 1; n < lines.length; n++) {
            Matcher matcher = CALL.matcher(lines[n]);
            boolean isCall = matcher.matches();
            Check.same("a call with its answer: " + lines[n], isCall ? 1 : 0, 1);
            if (isCall) {
                called.add(matcher.group(1));
                Check.same(lines[n], () -> answer(reader, matcher.group(1), matcher.group(2)), matcher.group(3));
            }
        }
        Check.same("it has every method: " + called, called.equals(new TreeSet<>(Arrays.asList(
                "feed", "end", "read", "count", "function", "export", "global", "initial"))) ? 1 : 0, 1);
        Check.finish("ReadmeTest");
    }

    private static String[] example(String readme) {
        String begin = "```java\n";
        int from = readme.indexOf(begin) + begin.length();
        return readme.substring(from, readme.indexOf("\n```", from)).split("\n");
    }

    private static long answer(WasmReader reader, String name, String arguments) {
        String[] written = arguments.isEmpty() ? new String[0] : arguments.split(", ");
        Object[] numbers = new Object[written.length];
        for (int k = 0; k < numbers.length; k++) {
            numbers[k] = (int) (long) Long.decode(written[k]);
        }
        try {
            return ((Number) methodOf(name).invoke(reader, numbers)).longValue();
        } catch (InvocationTargetException e) {
            throw (RuntimeException) e.getCause();
        } catch (IllegalAccessException e) {
            throw new AssertionError(e);
        }
    }

    private static Method methodOf(String name) {
        for (Method method : WasmReader.class.getMethods()) {
            if (method.getName().equals(name)) {
                return method;
            }
        }
        throw new AssertionError("there is no " + name);
    }
}
