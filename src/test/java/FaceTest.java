import java.lang.reflect.Constructor;
import java.lang.reflect.Field;
import java.lang.reflect.Method;
import java.lang.reflect.Modifier;
import java.util.Arrays;
import java.util.Set;
import java.util.TreeSet;

/** The public face: constants, constructor and methods as the document has them, and no others. */
public final class FaceTest {
    private static final String BOUNDS = " throws java.lang.IndexOutOfBoundsException";
    private static final String BOTH = BOUNDS + ",java.lang.IllegalArgumentException";
    private static final String CLASS = "public final class ConceptMarker";
    private static final String[] FACE = {
        "public ConceptMarker()",
        "public int ConceptMarker.addIdea(int,int)" + BOUNDS + ",java.lang.IllegalStateException",
        "public boolean ConceptMarker.link(int,int,int,int)" + BOTH,
        "public int ConceptMarker.clear(int)" + BOUNDS,
        "public boolean ConceptMarker.synonyms(int,int)" + BOUNDS,
        "public int ConceptMarker.chain(int,int,int) throws java.lang.IllegalArgumentException",
        "public int ConceptMarker.ideas(int)" + BOUNDS,
        "public int ConceptMarker.links(int)" + BOUNDS,
        "public int ConceptMarker.held(int)" + BOUNDS,
        "public boolean ConceptMarker.holds(int,int,int,int)" + BOTH,
        "public int ConceptMarker.points(int)" + BOUNDS,
        "public int ConceptMarker.pointsByTrying(int)" + BOUNDS,
        "public int ConceptMarker.mark(int)" + BOUNDS,
        "public int ConceptMarker.bestModel()",
        "public int ConceptMarker.matchOf(int,int)" + BOUNDS,
        "public int ConceptMarker.verdict(int,int,int,int)" + BOTH + ",java.lang.IllegalStateException",
        "public int ConceptMarker.lacking(int)" + BOUNDS,
        "public int ConceptMarker.hint(int)" + BOUNDS,
        "public int ConceptMarker.gain(int)" + BOUNDS,
        "public static final int ConceptMarker.NONE",
        "public static final int ConceptMarker.MISSING",
        "public static final int ConceptMarker.REVERSED",
        "public static final int ConceptMarker.WRONG_KIND",
        "public static final int ConceptMarker.HELD",
    };
    private static final Checks checks = new Checks();

    private FaceTest() {
    }

    public static void main(String[] args) {
        checks.due("the class", CLASS, () -> ConceptMarker.class.toGenericString());
        checks.due("the face", new TreeSet<>(Arrays.asList(FACE)), FaceTest::faceFound);
        checks.due("NONE", -1, () -> ConceptMarker.NONE);
        checks.due("MISSING", 0, () -> ConceptMarker.MISSING);
        checks.due("REVERSED", 1, () -> ConceptMarker.REVERSED);
        checks.due("WRONG_KIND", 2, () -> ConceptMarker.WRONG_KIND);
        checks.due("HELD", 3, () -> ConceptMarker.HELD);
        for (Class<?> inside : ConceptMarker.class.getDeclaredClasses()) {
            checks.due(inside + " is hidden", false,
                    () -> (inside.getModifiers() & (Modifier.PUBLIC | Modifier.PROTECTED)) != 0);
        }
        checks.end("FaceTest");
    }

    /** All that is not private. */
    private static Set<String> faceFound() {
        Set<String> found = new TreeSet<>();
        for (Constructor<?> one : ConceptMarker.class.getDeclaredConstructors()) {
            found.add(one.toString());
        }
        for (Method one : ConceptMarker.class.getDeclaredMethods()) {
            if (!Modifier.isPrivate(one.getModifiers())) {
                found.add(one.toString());
            }
        }
        for (Field one : ConceptMarker.class.getDeclaredFields()) {
            if (!Modifier.isPrivate(one.getModifiers())) {
                found.add(one.toString());
            }
        }
        return found;
    }
}
