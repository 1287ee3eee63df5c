import java.io.IOException;
import java.lang.reflect.InvocationTargetException;
import java.lang.reflect.Method;
import java.lang.reflect.Modifier;
import java.nio.file.Files;
import java.nio.file.Path;
import java.util.HashSet;
import java.util.Set;
import java.util.regex.Matcher;
import java.util.regex.Pattern;

/** The example of README.md: each of its calls answers what stands behind it. */
public final class ReadmeTest {
    private static final Pattern EXAMPLE = Pattern.compile("(?s)```java\n(.*?)```");
    private static final Pattern CALL = Pattern.compile("marker\\.(\\w+)\\(([-\\d, ]*)\\); +// ([-\\w]+)(:.*)?");
    private static final String MADE = "ConceptMarker marker = new ConceptMarker();";
    private static final Checks checks = new Checks();

    private ReadmeTest() {
    }

    public static void main(String[] args) throws IOException {
        String text = Files.readString(Path.of("README.md"));
        Matcher example = EXAMPLE.matcher(text);
        checks.due("README.md has an example", true, example::find);
        String[] lines = example.group(1).split("\n");
        checks.due("the first line of the example", MADE, () -> lines[0]);
        ConceptMarker marker = new ConceptMarker();
        for (int line = 1; line < lines.length; line++) {
            tryLine(marker, lines[line]);
        }
        eachCallIsTold(text);
        checks.end("ReadmeTest");
    }

    private static void tryLine(ConceptMarker marker, String line) {
        Matcher call = CALL.matcher(line);
        checks.due("'" + line + "' is a call with its answer", true, call::matches);
        checks.due(line, call.group(3), () -> String.valueOf(answer(marker, call.group(1), call.group(2))));
    }

    private static Object answer(ConceptMarker marker, String name, String numbers) throws Exception {
        String[] told = numbers.isEmpty() ? new String[0] : numbers.split(", ");
        Object[] given = new Object[told.length];
        Class<?>[] types = new Class<?>[told.length];
        for (int place = 0; place < told.length; place++) {
            given[place] = Integer.valueOf(told[place]);
            types[place] = int.class;
        }
        Method method = ConceptMarker.class.getMethod(name, types);
        try {
            return method.invoke(marker, given);
        } catch (InvocationTargetException thrown) {
            return thrown.getCause().getClass();
        }
    }

    private static void eachCallIsTold(String text) {
        Set<String> names = new HashSet<>();
        for (Method method : ConceptMarker.class.getDeclaredMethods()) {
            if (Modifier.isPublic(method.getModifiers())) {
                names.add(method.getName());
            }
        }
        for (String name : names) {
            checks.due("README.md tells of " + name, true, () -> text.contains("`" + name + "("));
        }
    }
}
