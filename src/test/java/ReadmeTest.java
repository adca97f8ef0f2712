import java.io.IOException;
import java.lang.reflect.Method;
import java.lang.reflect.Modifier;
import java.nio.file.Files;
import java.nio.file.Path;
import java.util.regex.Matcher;
import java.util.regex.Pattern;

/** README.md's evening is lived line by line, and every call of the face is named there; it is run in the project's folder. */
public final class ReadmeTest {
    private static final Pattern FEED = Pattern.compile("feed\\(x, \"(.*)\"\\);");
    private static final Pattern CALL = Pattern.compile("x\\.(\\w+)\\(([-0-9, ]*)\\); +// (-?\\d+|true|false)\\b.*");

    private static final Check c = new Check();

    public static void main(String[] args) throws IOException, ReflectiveOperationException {
        String page = Files.readString(Path.of("README.md"));
        String start = "OffThenOn x = new OffThenOn();\n";
        c.is("README.md has an evening", page.contains(start), true);
        String evening = page.substring(page.indexOf(start) + start.length());
        live(evening.substring(0, evening.indexOf("```")));
        for (Method m : OffThenOn.class.getDeclaredMethods()) {
            if (Modifier.isPublic(m.getModifiers())) {
                c.is("README.md names " + m.getName(), page.matches("(?s).*`" + m.getName() + "[`(].*"), true);
            }
        }
        c.is("README.md says how to run the tests", page.contains("bash .ci/run"), true);
        c.close();
    }

    private static void live(String evening) throws ReflectiveOperationException {
        OffThenOn x = new OffThenOn();
        for (String line : evening.split("\n")) {
            Matcher feed = FEED.matcher(line);
            Matcher call = CALL.matcher(line);
            if (feed.matches()) {
                Check.feed(x, feed.group(1).translateEscapes());
            } else if (call.matches()) {
                c.is(line, String.valueOf(answer(x, call.group(1), call.group(2))), call.group(3));
            } else {
                c.is("a line that can be lived", line, "");
            }
        }
    }

    private static Object answer(OffThenOn x, String name, String numbers) throws ReflectiveOperationException {
        String[] parts = numbers.isEmpty() ? new String[0] : numbers.split(", ");
        Class<?>[] types = new Class<?>[parts.length];
        Object[] values = new Object[parts.length];
        for (int i = 0; i < parts.length; i++) {
            types[i] = int.class;
            values[i] = Integer.valueOf(parts[i]);
        }
        return OffThenOn.class.getMethod(name, types).invoke(x, values);
    }
}
