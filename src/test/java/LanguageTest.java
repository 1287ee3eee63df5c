import java.io.IOException;
import java.lang.management.ManagementFactory;
import java.lang.reflect.Method;
import java.lang.reflect.Modifier;
import java.nio.file.Files;
import java.nio.file.Path;
import java.util.ArrayList;
import java.util.HashSet;
import java.util.List;
import java.util.Set;
import java.util.regex.Pattern;

/** The rules of LANGUAGE.md that a look at the file or at the class can tell. */
public final class LanguageTest {
    private static final Path SOURCE = Path.of("src/main/java/ConceptMarker.java");
    private static final String[] NOT_THERE = {
        "\\bpackage\\b", "\\bimport\\b", "\\btry\\b", "\\bcatch\\b", "\\bfinally\\b", "->", "::",
        "\\bsynchronized\\b", "\\bassert\\b", "\\bdouble\\b", "\\bfloat\\b", "\\bSystem\\b",
        "Exact\\b", "\\bequals\\b", "\\bhashCode\\b", "\\btoString\\b", "[^\\x00-\\x7f]"};
    private static final Checks checks = new Checks();

    private LanguageTest() {
    }

    public static void main(String[] args) throws IOException {
        String text = Files.readString(SOURCE);
        String code = text.replaceAll("(?s)/\\*.*?\\*/", "").replaceAll("//.*", "");
        for (String words : NOT_THERE) {
            checks.due("the file has " + words, false, () -> Pattern.compile(words).matcher(code).find());
        }
        List<Class<?>> classes = new ArrayList<>(List.of(ConceptMarker.class.getDeclaredClasses()));
        checks.due("more than twelve classes", false, () -> classes.size() > 11);
        classes.add(ConceptMarker.class);
        for (Class<?> one : classes) {
            look(one);
        }
        room();
        checks.end("LanguageTest");
    }

    private static void look(Class<?> one) {
        Set<String> face = new HashSet<>();
        for (Method method : ConceptMarker.class.getDeclaredMethods()) {
            if (Modifier.isPublic(method.getModifiers())) {
                face.add(method.getName());
            }
        }
        for (Method method : one.getDeclaredMethods()) {
            boolean ofFace = one == ConceptMarker.class && Modifier.isPublic(method.getModifiers());
            checks.due(method + " has a name of the face", ofFace, () -> face.contains(method.getName()));
            checks.due(method + " takes too much", false, () -> method.getParameterCount() > 7);
        }
        checks.due(one + " has too many fields", false, () -> one.getDeclaredFields().length > 24);
        checks.due(one + " is made within objects", true,
                () -> one == ConceptMarker.class || Modifier.isStatic(one.getModifiers()));
    }

    /** The calls that search longest make no objects, for all calls of a run share one room. */
    private static void room() {
        ConceptMarker x = Examples.twins(1, 1, 1, 1, 1);
        x.chain(0, 0, 1);
        Examples.addLinks(x, 0, 10, 120, 213, 340);
        Examples.addLinks(x, 1, 20, 240, 413, 130, 321);
        askAll(x);
        long before = allocated();
        for (int round = 0; round < 60; round++) {
            askAll(x);
        }
        long made = allocated() - before;
        checks.due(made + " bytes made are too many", false, () -> made > 10_000);
    }

    private static void askAll(ConceptMarker x) {
        x.held(0);
        x.points(1);
        x.pointsByTrying(1);
        x.mark(1);
        x.matchOf(1, 0);
        x.lacking(1);
        x.hint(1);
        x.gain(1);
        x.bestModel();
    }

    private static long allocated() {
        var threads = (com.sun.management.ThreadMXBean) ManagementFactory.getThreadMXBean();
        return threads.getThreadAllocatedBytes(Thread.currentThread().getId());
    }
}
