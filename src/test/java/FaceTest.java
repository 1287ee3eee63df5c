import java.io.IOException;
import java.lang.reflect.Constructor;
import java.lang.reflect.Field;
import java.lang.reflect.Method;
import java.lang.reflect.Modifier;
import java.nio.file.Files;
import java.nio.file.Path;
import java.util.ArrayList;
import java.util.Arrays;
import java.util.List;
import java.util.Set;
import java.util.TreeSet;
import java.util.regex.Matcher;
import java.util.regex.Pattern;

/** The public face: constants, constructor and methods as the document has them, and no others. */
public final class FaceTest {
    private static final String BOUNDS = " throws java.lang.IndexOutOfBoundsException";
    private static final String BOTH = BOUNDS + ",java.lang.IllegalArgumentException";
    private static final String CLASS = "public final class ConceptMarker";
    private static final String[] FACE = {
        "public ConceptMarker()",
        "public int ConceptMarker.addIdea(int,int)" + BOUNDS + ",java.lang.IllegalStateException",
        "public boolean ConceptMarker.link(int,int,int,int)" + BOTH,
        "public int ConceptMarker.clear(int)" + BOUNDS,
        "public boolean ConceptMarker.synonyms(int,int)" + BOUNDS,
        "public int ConceptMarker.chain(int,int,int) throws java.lang.IllegalArgumentException",
        "public int ConceptMarker.ideas(int)" + BOUNDS,
        "public int ConceptMarker.links(int)" + BOUNDS,
        "public int ConceptMarker.held(int)" + BOUNDS,
        "public boolean ConceptMarker.holds(int,int,int,int)" + BOTH,
        "public int ConceptMarker.points(int)" + BOUNDS,
        "public int ConceptMarker.pointsByTrying(int)" + BOUNDS,
        "public int ConceptMarker.mark(int)" + BOUNDS,
        "public int ConceptMarker.bestModel()",
        "public int ConceptMarker.matchOf(int,int)" + BOUNDS,
        "public int ConceptMarker.verdict(int,int,int,int)" + BOTH + ",java.lang.IllegalStateException",
        "public int ConceptMarker.lacking(int)" + BOUNDS,
        "public int ConceptMarker.hint(int)" + BOUNDS,
        "public int ConceptMarker.gain(int)" + BOUNDS,
        "public static final int ConceptMarker.NONE",
        "public static final int ConceptMarker.MISSING",
        "public static final int ConceptMarker.REVERSED",
        "public static final int ConceptMarker.WRONG_KIND",
        "public static final int ConceptMarker.HELD",
    };
    private static final String[] ORDER = {
        "ConceptMarker",
        "---- maps", "addIdea", "link", "clear", "synonyms", "chain", "ideas", "links", "held", "holds",
        "---- marks", "points", "pointsByTrying", "mark", "bestModel", "matchOf", "verdict", "lacking",
        "hint", "gain"};
    private static final Pattern HEADING_OR_CALL =
            Pattern.compile("(?m)^    // (---- ma.*)$|^    public (?:int |boolean |)(\\w+)\\(");
    private static final Checks checks = new Checks();

    private FaceTest() {
    }

    public static void main(String[] args) throws IOException {
        checks.due("the class", CLASS, () -> ConceptMarker.class.toGenericString());
        checks.due("the face", new TreeSet<>(Arrays.asList(FACE)), FaceTest::faceFound);
        String source = Files.readString(Path.of("src/main/java/ConceptMarker.java"));
        checks.due("the order of calls and headings", Arrays.asList(ORDER), () -> orderFound(source));
        checks.due("NONE", -1, () -> ConceptMarker.NONE);
        checks.due("MISSING", 0, () -> ConceptMarker.MISSING);
        checks.due("REVERSED", 1, () -> ConceptMarker.REVERSED);
        checks.due("WRONG_KIND", 2, () -> ConceptMarker.WRONG_KIND);
        checks.due("HELD", 3, () -> ConceptMarker.HELD);
        for (Class<?> inside : ConceptMarker.class.getDeclaredClasses()) {
            checks.due(inside + " is hidden", false,
                    () -> (inside.getModifiers() & (Modifier.PUBLIC | Modifier.PROTECTED)) != 0);
        }
        checks.end("FaceTest");
    }

    /** "Ahead of the calls ... the interface says: ---- maps.", and ---- marks. */
    private static List<String> orderFound(String source) {
        List<String> found = new ArrayList<>();
        Matcher matcher = HEADING_OR_CALL.matcher(source);
        while (matcher.find()) {
            found.add(matcher.group(1) == null ? matcher.group(2) : matcher.group(1));
        }
        return found;
    }

    /** All that is not private. */
    private static Set<String> faceFound() {
        Set<String> found = new TreeSet<>();
        for (Constructor<?> one : ConceptMarker.class.getDeclaredConstructors()) {
            found.add(one.toString());
        }
        for (Method one : ConceptMarker.class.getDeclaredMethods()) {
            if (!Modifier.isPrivate(one.getModifiers())) {
                found.add(one.toString());
            }
        }
        for (Field one : ConceptMarker.class.getDeclaredFields()) {
            if (!Modifier.isPrivate(one.getModifiers())) {
                found.add(one.toString());
            }
        }
        return found;
    }
}
