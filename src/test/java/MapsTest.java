/** Promises 1 to 10: what maps are made of and what they hold. */
public final class MapsTest {
    private static final Checks checks = new Checks();

    private MapsTest() {
    }

    public static void main(String[] args) {
        promise1NewObject();
        promise2AddIdea();
        promise3Link();
        promise4Clear();
        promise5Synonyms();
        promise6Chain();
        promise7Ideas();
        promise8Links();
        promise9Held();
        promise10Holds();
        promise10HoldsOnlyOverDifferentIdeas();
        promise10HoldsSeveralKinds();
        checks.end("MapsTest");
    }

    private static void promise1NewObject() {
        ConceptMarker x = new ConceptMarker();
        for (int map = 0; map < 4; map++) {
            int m = map;
            checks.due("ideas of a new map " + m, 0, () -> x.ideas(m));
            checks.due("links of a new map " + m, 0, () -> x.links(m));
            checks.due("held of a new map " + m, 0, () -> x.held(m));
            checks.throwsOutOfBounds("holds in a new map " + m, () -> x.holds(m, 0, 1, 0));
        }
        for (int word = 1; word < 32; word++) {
            int w = word;
            checks.due("new words 0 and " + w, false, () -> new ConceptMarker().synonyms(0, w));
        }
        for (int place = 0; place < 16; place++) {
            int first = place / 4;
            int second = place % 4;
            checks.due("new chain " + first + " " + second, -1, () -> x.chain(first, second, -1));
        }
        for (int model = 1; model < 4; model++) {
            int m = model;
            checks.due("points of a new model " + m, 0, () -> x.points(m));
            checks.due("points by trying of a new model " + m, 0, () -> x.pointsByTrying(m));
            checks.due("mark of a new model " + m, 0, () -> x.mark(m));
            checks.due("lacking of a new model " + m, 0, () -> x.lacking(m));
            checks.due("hint of a new model " + m, -1, () -> x.hint(m));
            checks.due("gain of a new model " + m, 0, () -> x.gain(m));
            checks.throwsOutOfBounds("matchOf of a new model " + m, () -> x.matchOf(m, 0));
        }
        checks.due("bestModel of a new object", -1, x::bestModel);
        ConceptMarker other = new ConceptMarker();
        x.addIdea(0, 0);
        checks.due("another object's ideas", 0, () -> other.ideas(0));
    }

    private static void promise2AddIdea() {
        for (int map = 0; map < 4; map++) {
            ConceptMarker x = new ConceptMarker();
            int m = map;
            int[] words = {0, 31, 7, 7, 0};
            for (int idea = 0; idea < 5; idea++) {
                int number = idea;
                checks.due("addIdea(" + m + ")", number, () -> x.addIdea(m, words[number]));
            }
            checks.throwsState("a sixth idea of map " + m, () -> x.addIdea(m, 3));
            checks.throwsOutOfBounds("a sixth idea of no word", () -> x.addIdea(m, 32));
            checks.due("ideas after a refused one", 5, () -> x.ideas(m));
            checks.due("another map is not full", 0, () -> x.addIdea((m + 1) % 4, 3));
        }
        ConceptMarker x = new ConceptMarker();
        for (int map : Examples.OUTSIDE_MAPS) {
            checks.throwsOutOfBounds("addIdea to map " + map, () -> x.addIdea(map, 0));
        }
        for (int word : Examples.OUTSIDE_WORDS) {
            checks.throwsOutOfBounds("addIdea of word " + word, () -> x.addIdea(0, word));
        }
        checks.due("ideas after wrong ones", 0, () -> x.ideas(0));
    }

    private static void promise3Link() {
        ConceptMarker x = Examples.twins(0, 1, 2, 3, 4);
        checks.due("a link comes", true, () -> x.link(0, 0, 4, 3));
        checks.due("the same of another kind", true, () -> x.link(0, 0, 4, 0));
        checks.due("the same in the other direction", true, () -> x.link(0, 4, 0, 3));
        checks.due("the same in another map", true, () -> x.link(1, 0, 4, 3));
        checks.due("links", 3, () -> x.links(0));
        checks.due("it goes", false, () -> x.link(0, 0, 4, 3));
        checks.due("the other kind stays", true, () -> x.holds(0, 0, 4, 0));
        checks.due("the other direction stays", true, () -> x.holds(0, 4, 0, 3));
        checks.due("the other map keeps it", true, () -> x.holds(1, 0, 4, 3));
        checks.due("it is gone", false, () -> x.holds(0, 0, 4, 3));
        checks.due("it comes again", true, () -> x.link(0, 0, 4, 3));
        linkRefusals();
        ConceptMarker implied = Examples.twins(0, 1, 2);
        implied.chain(0, 0, 0);
        Examples.addLinks(implied, 0, 10, 120);
        checks.due("a link that is only held comes", true, () -> implied.link(0, 0, 2, 0));
        checks.due("and goes", false, () -> implied.link(0, 0, 2, 0));
    }

    private static void linkRefusals() {
        ConceptMarker x = new ConceptMarker();
        Examples.addIdeas(x, 0, 0, 1, 2);
        Examples.addIdeas(x, 1, 0, 1, 2, 3, 4);
        for (int map : Examples.OUTSIDE_MAPS) {
            checks.throwsOutOfBounds("link in map " + map, () -> x.link(map, 0, 1, 0));
            checks.throwsOutOfBounds("link in map " + map + " to itself", () -> x.link(map, 1, 1, 9));
        }
        for (int idea : new int[] {-1, 3, 4, 5, Integer.MIN_VALUE, Integer.MAX_VALUE}) {
            checks.throwsOutOfBounds("link from " + idea, () -> x.link(0, idea, 1, 0));
            checks.throwsOutOfBounds("link to " + idea, () -> x.link(0, 1, idea, 0));
            checks.throwsOutOfBounds("link of no idea to itself", () -> x.link(0, idea, idea, 0));
            checks.throwsOutOfBounds("link of no idea and no kind", () -> x.link(0, 0, idea, 4));
        }
        for (int kind : Examples.OUTSIDE_KINDS) {
            checks.throwsArgument("link of kind " + kind, () -> x.link(0, 0, 1, kind));
        }
        checks.throwsArgument("link of an idea to itself", () -> x.link(0, 2, 2, 0));
        checks.due("links after refusals", 0, () -> x.links(0));
    }

    private static void promise4Clear() {
        ConceptMarker x = Examples.twins(0, 1, 2);
        Examples.addLinks(x, 0, 10, 120, 213);
        Examples.addLinks(x, 1, 10);
        x.chain(0, 0, 0);
        x.synonyms(8, 9);
        checks.due("clear, links that are only held not counted", 6, () -> x.clear(0));
        checks.due("ideas after clear", 0, () -> x.ideas(0));
        checks.due("links after clear", 0, () -> x.links(0));
        checks.due("held after clear", 0, () -> x.held(0));
        checks.due("clear of an empty map", 0, () -> x.clear(0));
        checks.due("another map's ideas stay", 3, () -> x.ideas(1));
        checks.due("another map's links stay", 1, () -> x.links(1));
        checks.due("the first idea after clear", 0, () -> x.addIdea(0, 5));
        checks.due("the second idea after clear", 1, () -> x.addIdea(0, 6));
        checks.due("no link stays behind", false, () -> x.holds(0, 0, 1, 0));
        checks.due("clear without links", 2, () -> x.clear(0));
        checks.due("synonyms stay", true, () -> x.synonyms(8, 9));
        checks.due("chains stay", 0, () -> x.chain(0, 0, -1));
        for (int map : Examples.OUTSIDE_MAPS) {
            checks.throwsOutOfBounds("clear of map " + map, () -> x.clear(map));
        }
        ConceptMarker full = Examples.twins(0, 0, 0, 0, 0);
        for (int link = 0; link < 100; link++) {
            if (link / 20 != link / 4 % 5) {
                full.link(1, link / 20, link / 4 % 5, link % 4);
            }
        }
        checks.due("clear of a map with all links", 85, () -> full.clear(1));
    }

    private static void promise5Synonyms() {
        ConceptMarker x = new ConceptMarker();
        checks.due("the same word", true, () -> x.synonyms(31, 31));
        checks.due("0 and 31", false, () -> x.synonyms(0, 31));
        checks.due("0 and 31 again", true, () -> x.synonyms(0, 31));
        checks.due("31 and 0", true, () -> x.synonyms(31, 0));
        checks.due("1 and 2", false, () -> x.synonyms(1, 2));
        checks.due("2 and 31 joins both pairs", false, () -> x.synonyms(2, 31));
        checks.due("0 and 1 over 31 and 2", true, () -> x.synonyms(0, 1));
        checks.due("3 and 0", false, () -> x.synonyms(3, 0));
        checks.due("1 and 3", true, () -> x.synonyms(1, 3));
        checks.due("4 and 3 are none before", false, () -> x.synonyms(4, 3));
        for (int word : Examples.OUTSIDE_WORDS) {
            checks.throwsOutOfBounds("synonyms of " + word, () -> x.synonyms(word, 0));
            checks.throwsOutOfBounds("synonyms with " + word, () -> x.synonyms(0, word));
            checks.throwsOutOfBounds("synonyms of and with " + word, () -> x.synonyms(word, word));
        }
        ConceptMarker y = new ConceptMarker();
        y.addIdea(0, 10);
        y.addIdea(1, 11);
        checks.due("other words match nothing", -1, () -> y.matchOf(1, 0));
        y.synonyms(11, 12);
        y.synonyms(10, 12);
        checks.due("synonyms of synonyms match", 0, () -> y.matchOf(1, 0));
    }

    private static void promise6Chain() {
        ConceptMarker x = new ConceptMarker();
        for (int place = 0; place < 16; place++) {
            int first = place / 4;
            int second = place % 4;
            int kind = (first + 2 * second) % 4;
            checks.due("chain at first", -1, () -> x.chain(first, second, kind));
        }
        for (int place = 0; place < 16; place++) {
            int first = place / 4;
            int second = place % 4;
            int kind = (first + 2 * second) % 4;
            checks.due("chain then", kind, () -> x.chain(first, second, -1));
            checks.due("chain of none", -1, () -> x.chain(first, second, 3));
            checks.due("the same again", 3, () -> x.chain(first, second, 3));
        }
        for (int kind : Examples.OUTSIDE_KINDS) {
            checks.throwsArgument("chain first " + kind, () -> x.chain(kind, 0, 0));
            checks.throwsArgument("chain second " + kind, () -> x.chain(0, kind, 0));
            if (kind != -1) {
                checks.throwsArgument("chain implied " + kind, () -> x.chain(0, 0, kind));
            }
        }
        checks.throwsArgument("chain implied below NONE", () -> x.chain(0, 0, -2));
        checks.due("a chain after refusals", 3, () -> x.chain(0, 0, 0));
    }

    private static void promise7Ideas() {
        ConceptMarker x = new ConceptMarker();
        Examples.addIdeas(x, 0, 1, 1);
        Examples.addIdeas(x, 3, 1, 2, 3, 4, 5);
        checks.due("ideas(0)", 2, () -> x.ideas(0));
        checks.due("ideas(1)", 0, () -> x.ideas(1));
        checks.due("ideas(2)", 0, () -> x.ideas(2));
        checks.due("ideas(3)", 5, () -> x.ideas(3));
        for (int map : Examples.OUTSIDE_MAPS) {
            checks.throwsOutOfBounds("ideas(" + map + ")", () -> x.ideas(map));
        }
    }

    private static void promise8Links() {
        ConceptMarker x = Examples.twins(0, 1, 2, 3, 4);
        x.chain(0, 0, 1);
        Examples.addLinks(x, 0, 10, 11, 12, 13, 100, 120, 430);
        Examples.addLinks(x, 1, 343);
        checks.due("links(0), implied ones not counted", 7, () -> x.links(0));
        checks.due("links(1)", 1, () -> x.links(1));
        checks.due("links(2)", 0, () -> x.links(2));
        for (int map : Examples.OUTSIDE_MAPS) {
            checks.throwsOutOfBounds("links(" + map + ")", () -> x.links(map));
        }
    }

    private static void promise9Held() {
        ConceptMarker x = Examples.twins(0, 1, 2, 3, 4);
        Examples.addLinks(x, 0, 10, 120, 230, 340);
        Examples.addLinks(x, 1, 10, 121);
        checks.due("held without chains", 4, () -> x.held(0));
        x.chain(0, 0, 0);
        checks.due("held by chains of held links", 10, () -> x.held(0));
        checks.due("held where no chain is", 2, () -> x.held(1));
        x.chain(0, 1, 3);
        checks.due("held where a chain is", 3, () -> x.held(1));
        x.link(0, 2, 0, 0);
        checks.due("held round a ring of three", 13, () -> x.held(0));
        x.link(0, 0, 2, 0);
        checks.due("a link that was held already adds none", 13, () -> x.held(0));
        x.chain(0, 0, -1);
        checks.due("held when the chain is taken away", 6, () -> x.held(0));
        for (int map : Examples.OUTSIDE_MAPS) {
            checks.throwsOutOfBounds("held(" + map + ")", () -> x.held(map));
        }
        ConceptMarker late = Examples.twins(0, 1, 2, 3, 4);
        Examples.addLinks(late, 0, 430, 320, 210, 100);
        late.chain(0, 0, 1);
        late.chain(1, 0, 2);
        late.chain(2, 0, 3);
        checks.due("held by chains of growing kinds", 10, () -> late.held(0));
    }

    private static void promise10Holds() {
        ConceptMarker x = Examples.twins(0, 1, 2, 3);
        Examples.addLinks(x, 0, 10, 121, 232);
        x.chain(0, 1, 3);
        x.chain(3, 2, 0);
        checks.due("a link that it has", true, () -> x.holds(0, 0, 1, 0));
        checks.due("another kind", false, () -> x.holds(0, 0, 1, 1));
        checks.due("the other direction", false, () -> x.holds(0, 1, 0, 0));
        checks.due("an implied link", true, () -> x.holds(0, 0, 2, 3));
        checks.due("implied by an implied link", true, () -> x.holds(0, 0, 3, 0));
        checks.due("no chain for those kinds", false, () -> x.holds(0, 1, 3, 0));
        checks.due("the chain is of first and second, not turned", false, () -> x.holds(0, 2, 0, 3));
        checks.due("another map", false, () -> x.holds(1, 0, 1, 0));
        for (int map : Examples.OUTSIDE_MAPS) {
            checks.throwsOutOfBounds("holds in map " + map, () -> x.holds(map, 0, 1, 0));
            checks.throwsOutOfBounds("holds in map " + map + " all wrong", () -> x.holds(map, 1, 1, 4));
        }
        for (int idea : new int[] {-1, 4, 5, Integer.MIN_VALUE, Integer.MAX_VALUE}) {
            checks.throwsOutOfBounds("holds from " + idea, () -> x.holds(0, idea, 1, 0));
            checks.throwsOutOfBounds("holds to " + idea, () -> x.holds(0, 1, idea, 0));
            checks.throwsOutOfBounds("holds of no idea and itself", () -> x.holds(0, idea, idea, 0));
            checks.throwsOutOfBounds("holds of no idea and no kind", () -> x.holds(0, idea, 1, -1));
        }
        for (int kind : Examples.OUTSIDE_KINDS) {
            checks.throwsArgument("holds of kind " + kind, () -> x.holds(0, 0, 1, kind));
        }
        checks.throwsArgument("holds of an idea to itself", () -> x.holds(0, 3, 3, 0));
    }

    private static void promise10HoldsOnlyOverDifferentIdeas() {
        ConceptMarker x = Examples.twins(0, 1, 2);
        Examples.addLinks(x, 0, 10, 100);
        for (int place = 0; place < 16; place++) {
            x.chain(place / 4, place % 4, 1);
        }
        checks.due("there and back implies nothing", 2, () -> x.held(0));
        checks.due("nor a link of those kinds", false, () -> x.holds(0, 0, 1, 1));
        x.link(0, 1, 2, 3);
        checks.due("over another idea", true, () -> x.holds(0, 0, 2, 1));
        checks.due("and from that one", true, () -> x.holds(0, 1, 2, 1));
        checks.due("and no more", 5, () -> x.held(0));
    }

    private static void promise10HoldsSeveralKinds() {
        ConceptMarker x = Examples.twins(0, 1, 2, 3, 4);
        Examples.addLinks(x, 0, 40, 43, 412, 410);
        x.chain(0, 2, 1);
        x.chain(3, 0, 0);
        x.chain(3, 2, 1);
        checks.due("over the last idea, by two chains", true, () -> x.holds(0, 0, 1, 1));
        checks.due("over the same idea another kind", true, () -> x.holds(0, 0, 1, 0));
        checks.due("and no third one", false, () -> x.holds(0, 0, 1, 2));
        checks.due("held in all", 6, () -> x.held(0));
        x.chain(0, 2, -1);
        checks.due("one of the two chains is left", true, () -> x.holds(0, 0, 1, 1));
        x.chain(3, 2, -1);
        checks.due("none of them is left", false, () -> x.holds(0, 0, 1, 1));
        checks.due("the other kind stays", true, () -> x.holds(0, 0, 1, 0));
    }
}
