import java.io.IOException;
import java.lang.reflect.Method;
import java.lang.reflect.Modifier;
import java.nio.charset.StandardCharsets;
import java.nio.file.Files;
import java.nio.file.Path;
import java.util.regex.Matcher;
import java.util.regex.Pattern;

/** README.md says how to use the class: each call in it has the answer that stands behind it. */
public final class ReadmeTest {
    private static final Checks C = new Checks();
    private static final Pattern CALL = Pattern.compile("x\\.(\\w+)\\(([^)]*)\\); +// (-?\\d+):.*");
    private static final Pattern FEED = Pattern.compile("for \\(char sign : \"([^\"]*)\"\\.toCharArray\\(\\)\\) x\\.feed\\(sign\\);");
    private static final String NEW = "AskedIn x = new AskedIn();";

    public static void main(String[] args) throws IOException, ReflectiveOperationException {
        String text = Files.readString(Path.of("README.md"), StandardCharsets.UTF_8);
        everyCallIsNamed(text);
        answersAreAsTold(text);
        C.due("README.md says how to run the tests", text.contains("bash .ci/run"));
        C.end("ReadmeTest");
    }

    private static void everyCallIsNamed(String text) {
        for (Method method : AskedIn.class.getDeclaredMethods()) {
            if (Modifier.isPublic(method.getModifiers())) {
                String name = method.getName();
                C.due("README.md names " + name, text.contains("x." + name + "(") || text.contains("`" + name + "`"));
            }
        }
    }

    private static void answersAreAsTold(String text) throws ReflectiveOperationException {
        AskedIn x = new AskedIn();
        boolean code = false;
        for (String line : text.split("\n")) {
            if (line.startsWith("```")) {
                code = line.equals("```java");
            } else if (code && line.equals(NEW)) {
                x = new AskedIn();
            } else if (code) {
                one(x, line);
            }
        }
    }

    private static void one(AskedIn x, String line) throws ReflectiveOperationException {
        Matcher feed = FEED.matcher(line);
        Matcher call = CALL.matcher(line);
        if (feed.matches()) {
            Checks.feed(x, feed.group(1));
        } else if (call.matches()) {
            C.due("README.md: " + line, answer(x, call.group(1), call.group(2)), Long.parseLong(call.group(3)));
        } else {
            C.due("README.md has a line that is no call: " + line, false);
        }
    }

    private static long answer(AskedIn x, String name, String told) throws ReflectiveOperationException {
        String[] words = told.isEmpty() ? new String[0] : told.split(", ");
        for (Method method : AskedIn.class.getDeclaredMethods()) {
            if (method.getName().equals(name) && Modifier.isPublic(method.getModifiers())) {
                Class<?>[] sorts = method.getParameterTypes();
                Object[] values = new Object[words.length];
                for (int i = 0; i < words.length; i++) {
                    values[i] = value(sorts[i], words[i]);
                }
                return ((Number) method.invoke(x, values)).longValue();
            }
        }
        throw new NoSuchMethodException(name);
    }

    private static Object value(Class<?> sort, String word) {
        if (sort == boolean.class) {
            return Boolean.valueOf(word);
        }
        return sort == long.class ? (Object) Long.valueOf(word) : (Object) Integer.valueOf(word);
    }
}
