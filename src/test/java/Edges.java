import java.util.ArrayList;
import java.util.List;

/** What the tests of edges have in common: numbers at an edge, and calls that are refused there. */
final class Edges {
    /** A call on an object. */
    interface Call {
        Object on(ConceptMarker marker) throws Exception;
    }

    /** A call on an object, one of whose arguments is a number that is tried. */
    interface CallOf {
        Object on(ConceptMarker marker, int number) throws Exception;
    }

    static final Class<?> BOUNDS = IndexOutOfBoundsException.class;
    static final Class<?> ARGUMENT = IllegalArgumentException.class;
    static final Class<?> STATE = IllegalStateException.class;

    /**
     * The lowest and the highest int, and numbers that become small ones where a product with 5 or
     * 25, a shift or a cast lets them wrap round.
     */
    private static final int[] FAR = {
        Integer.MIN_VALUE, Integer.MIN_VALUE + 1, Integer.MAX_VALUE, Integer.MAX_VALUE - 1,
        -64, -32, 64, 96, 256, 65536, 1 << 30, 0x33333333, 0x33333334, 0x66666667, -0x33333333};

    private final Checks checks;

    Edges(Checks checks) {
        this.checks = checks;
    }

    /** The next numbers below and above a range, and numbers far outside. */
    static int[] outside(int lowest, int highest) {
        int[] numbers = new int[FAR.length + 2];
        numbers[0] = lowest - 1;
        numbers[1] = highest + 1;
        System.arraycopy(FAR, 0, numbers, 2, FAR.length);
        return numbers;
    }

    static boolean isOutside(int number, int size) {
        return number < 0 || number >= size;
    }

    /** All links between so many ideas, each told as three digits: from, to and kind. */
    static List<Integer> linksOf(int ideas) {
        List<Integer> links = new ArrayList<>();
        for (int from = 0; from < ideas; from++) {
            for (int to = 0; to < ideas; to++) {
                for (int kind = 0; kind < 4 && from != to; kind++) {
                    links.add(100 * from + 10 * to + kind);
                }
            }
        }
        return links;
    }

    static int[] all(List<Integer> numbers) {
        return numbers.stream().mapToInt(Integer::intValue).toArray();
    }

    /**
     * An object with some of everything. The pupil's map has 3 ideas, the models have 4, 1 and 4;
     * each of them has a link 010 but the second model.
     */
    static ConceptMarker begun() {
        ConceptMarker marker = new ConceptMarker();
        marker.chain(0, 1, 3);
        marker.chain(3, 3, 0);
        marker.chain(2, 2, 2);
        marker.synonyms(7, 8);
        marker.synonyms(20, 21);
        marker.synonyms(22, 21);
        Examples.addIdeas(marker, 0, 0, 31, 7);
        Examples.addIdeas(marker, 1, 31, 0, 8, 7);
        Examples.addIdeas(marker, 2, 31);
        Examples.addIdeas(marker, 3, 8, 31, 22, 0);
        Examples.addLinks(marker, 0, 10, 121, 202);
        Examples.addLinks(marker, 1, 10, 100, 203, 22);
        Examples.addLinks(marker, 3, 10, 301, 132, 13);
        return marker;
    }

    /** An object one of whose maps has 5 ideas, and each other one fewer. */
    static ConceptMarker full(int map) {
        ConceptMarker marker = new ConceptMarker();
        for (int other = 0; other < 4; other++) {
            Examples.addIdeas(marker, other, other == map ? new int[] {0, 1, 2, 3, 4} : new int[] {4, 0, 2});
            Examples.addLinks(marker, other, 10, 121);
        }
        return marker;
    }

    /** Adds a link that is told as three digits, or takes it away; returns whether it is there then. */
    static boolean toggle(ConceptMarker x, int map, int link) {
        return x.link(map, link / 100, link / 10 % 10, link % 10);
    }

    static boolean holds(ConceptMarker x, int map, int link) {
        return x.holds(map, link / 100, link / 10 % 10, link % 10);
    }

    /** An object whose maps have 3 ideas each. */
    static ConceptMarker three() {
        ConceptMarker marker = new ConceptMarker();
        for (int map = 0; map < 4; map++) {
            Examples.addIdeas(marker, map, 0, 1, 2);
        }
        return marker;
    }

    /** The call is refused, and later calls on what was begun show nothing of it. */
    void refused(String what, Class<?> thrown, Call call) {
        refused(what, thrown, Edges.begun(), Edges.begun(), call);
    }

    /** The same with two objects that are in the same state. */
    void refused(String what, Class<?> thrown, ConceptMarker marker, ConceptMarker untouched, Call call) {
        checks.due(what, thrown, () -> call.on(marker));
        sameShown("what is shown after " + what, untouched, marker);
    }

    /** Each number of a range is accepted for what was begun, and each one outside is refused. */
    void range(String what, int lowest, int highest, Class<?> thrown, CallOf call) {
        accepted(what, lowest, highest, call);
        refusedOutside(what, lowest, highest, thrown, call);
    }

    void refusedOutside(String what, int lowest, int highest, Class<?> thrown, CallOf call) {
        for (int number : outside(lowest, highest)) {
            refused(what + " " + number, thrown, marker -> call.on(marker, number));
        }
    }

    /** Each number of a range is accepted for what was begun. */
    void accepted(String what, int lowest, int highest, CallOf call) {
        for (int number = lowest; number <= highest; number++) {
            ConceptMarker marker = begun();
            int tried = number;
            Object answer = Checks.answerOf(() -> call.on(marker, tried));
            checks.due(what + " " + tried + ", which answers " + answer + ", is refused", false,
                    () -> answer instanceof Class);
        }
    }

    /** Two objects that are in the same state answer all that can be asked in the same way. */
    void sameShown(String what, ConceptMarker due, ConceptMarker marker) {
        String wanted = Shown.all(due);
        checks.due(what, "", () -> Shown.difference(wanted, Shown.all(marker)));
    }
}
