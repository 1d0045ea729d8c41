import java.io.IOException;
import java.lang.reflect.Method;
import java.lang.reflect.Modifier;
import java.nio.file.Files;
import java.nio.file.Path;
import java.util.regex.Matcher;
import java.util.regex.Pattern;

/** README.md: its example answers as it says, and what it says of the calls leaves none of them out. */
public final class ReadmeTest {
    private static final Pattern CALL = Pattern.compile("(?m)^x\\.(\\w+)\\(([^)]*)\\);\\s*// (-?[0-9.]*[0-9])");

    public static void main(String[] args) throws IOException, ReflectiveOperationException {
        Check.mustEnd();
        String text = Files.readString(Path.of("README.md"));
        Check.holds("that README.md tells the 512 calls", text.contains("at most 512 calls"));
        Check.holds("that README.md tells how the tests are run", text.contains(".ci/run"));
        tellsAllCalls(text);
        exampleAnswers(text);
        Check.end();
    }

    private static void tellsAllCalls(String text) {
        for (Method method : LedgeLeaps.class.getDeclaredMethods()) {
            if (Modifier.isPublic(method.getModifiers())) {
                Check.holds("that README.md tells " + method.getName(),
                    Pattern.compile("(?m)^- `" + method.getName() + "\\(").matcher(text).find());
            }
        }
    }

    private static void exampleAnswers(String text) throws ReflectiveOperationException {
        LedgeLeaps x = new LedgeLeaps();
        Matcher call = CALL.matcher(text);
        int calls = 0;
        while (call.find()) {
            calls++;
            String name = call.group(1) + "(" + call.group(2) + ") in README.md";
            Check.dueText(name, answer(x, call.group(1), call.group(2)), call.group(3));
        }
        Check.due("the lines of the example that begin with x.", calls, text.lines().filter(l -> l.startsWith("x.")).count());
        Check.holds("that README.md has an example", calls > 0);
    }

    private static String answer(LedgeLeaps x, String name, String written) throws ReflectiveOperationException {
        String[] parts = written.isEmpty() ? new String[0] : written.split(", ");
        Class<?>[] types = new Class<?>[parts.length];
        Object[] arguments = new Object[parts.length];
        for (int i = 0; i < parts.length; i++) {
            types[i] = int.class;
            arguments[i] = parts[i].startsWith("'") ? (int) parts[i].charAt(1) : Integer.parseInt(parts[i]);
        }
        return LedgeLeaps.class.getMethod(name, types).invoke(x, arguments).toString();
    }
}
