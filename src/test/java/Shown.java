import java.util.concurrent.Callable;

/**
 * All that later calls show of an object, as a text: two objects with the same text are in the
 * same state as far as the face tells. It asks for the chains and synonyms by changing them, so
 * an object is of no use after it.
 */
final class Shown {
    private static final int MOST_CALLS = 512;

    private final ConceptMarker marker;
    private final StringBuilder text = new StringBuilder();
    private final int[] sizes = new int[4];
    private int calls = 0;

    private Shown(ConceptMarker marker) {
        this.marker = marker;
    }

    static String all(ConceptMarker marker) {
        Shown shown = new Shown(marker);
        for (int map = 0; map < 4; map++) {
            shown.map(map);
        }
        for (int model = 1; model < 4; model++) {
            shown.model(model);
        }
        shown.add("best", marker::bestModel);
        shown.chains();
        shown.synonyms();
        return shown.text.toString();
    }

    /** The answers of the second text that are not those of the first, and how many there are of each. */
    static String difference(String due, String got) {
        String[] wanted = due.split("\n");
        String[] answered = got.split("\n");
        StringBuilder text = new StringBuilder();
        if (wanted.length != answered.length) {
            text.append(wanted.length).append(" answers due, not ").append(answered.length).append(' ');
        }
        for (int line = 0; line < Math.min(wanted.length, answered.length); line++) {
            if (!wanted[line].equals(answered[line])) {
                text.append(answered[line]).append(" instead of ").append(wanted[line]).append(' ');
            }
        }
        return text.toString();
    }

    private void map(int map) {
        add("ideas" + map, () -> sizes[map] = marker.ideas(map));
        add("links" + map, () -> marker.links(map));
        add("held" + map, () -> marker.held(map));
        for (int link : Edges.linksOf(sizes[map])) {
            add("holds" + map + "." + link, () -> marker.holds(map, link / 100, link / 10 % 10, link % 10));
        }
    }

    private void model(int model) {
        add("points" + model, () -> marker.points(model));
        add("trying" + model, () -> marker.pointsByTrying(model));
        add("mark" + model, () -> marker.mark(model));
        add("lacking" + model, () -> marker.lacking(model));
        add("hint" + model, () -> marker.hint(model));
        add("gain" + model, () -> marker.gain(model));
        for (int idea = 0; idea < sizes[0]; idea++) {
            int asked = idea;
            add("match" + model + "." + asked, () -> marker.matchOf(model, asked));
        }
        for (int link : Edges.linksOf(sizes[model])) {
            add("verdict" + model + "." + link,
                    () -> marker.verdict(model, link / 100, link / 10 % 10, link % 10));
        }
    }

    private void chains() {
        for (int place = 0; place < 16; place++) {
            int chain = place;
            add("chain" + chain, () -> marker.chain(chain / 4, chain % 4, ConceptMarker.NONE));
        }
    }

    /** Each answer tells whether one of the words before it is a synonym. */
    private void synonyms() {
        for (int word = 1; word < 32; word++) {
            int other = word;
            add("synonym" + other, () -> marker.synonyms(0, other));
        }
    }

    private void add(String name, Callable<?> call) {
        calls++;
        if (calls > MOST_CALLS - 60) {
            throw new AssertionError("there are too many calls for one object");
        }
        text.append(name).append('=').append(Checks.answerOf(call)).append('\n');
    }
}
