import java.util.List;

/**
 * Promises 1 to 10 at their edges: for each sentence of the document that names one a method,
 * which begins with the sentence.
 */
public final class MapEdgesTest {
    private static final Checks checks = new Checks();
    private static final Edges edges = new Edges(checks);
    private static final int[] TRIED = {Integer.MIN_VALUE, -1, 0, 2, 3, Integer.MAX_VALUE};

    private MapEdgesTest() {
    }

    public static void main(String[] args) {
        promise1();
        promise2();
        promise3();
        promise4();
        promise5();
        promise6();
        promise7And8();
        promise9();
        promise10();
        checks.end("MapEdgesTest");
    }

    private static void promise1() {
        beginsWithEmptyMaps();
        beginsWithoutSynonyms();
        beginsWithNoWordsAlike();
        beginsWithoutChains();
        eachObjectBeginsAnew();
    }

    private static void promise2() {
        addIdeaToMaps0To3();
        addIdeaOfWords0To31();
        addIdeaReturnsItsNumberFrom0();
        addIdeaOfTheSameWordFiveTimes();
        addIdeaRefusesTheSixth();
        addIdeaRefusesNoWordBeforeTheSixth();
        addIdeaAfterARefusedOne();
    }

    private static void promise3() {
        linkInMaps0To3();
        linkFromAndToIdeasOfTheMap();
        linkOfKinds0To3();
        linkInMapsOfEachSize();
        linkRefusesTheSameIdea();
        linkComesAndGoesInAFullMap();
        linkTakesAwayNoOther();
        linkRefusesIdeasBeforeOtherArguments();
    }

    private static void promise4() {
        clearOfMaps0To3();
        clearOfAnEmptyMap();
        clearOfAFullMap();
        clearLeavesNoLinkAndNoWordBehind();
        clearLeavesTheRest();
        clearMakesRoomForFiveIdeas();
    }

    private static void promise5() {
        synonymsOfWords0To31();
        synonymsOfTheSameWord();
        synonymsOfNoWordAreNotTheSame();
        synonymsTellWhetherTheyWere();
        synonymsOfSynonyms();
        synonymsOfTwoHalves();
        synonymsOfAllWords();
    }

    private static void promise6() {
        chainOfKinds0To3();
        chainImpliesNoneOrAKind();
        chainReturnsWhatWasBefore();
        chainOfTheSameKindTwice();
        chainsAreSixteen();
        chainAfterARefusedOne();
    }

    private static void promise7And8() {
        ideasOfMaps0To3();
        ideasOfEachSize();
        linksOfMaps0To3();
        linksOfAnEmptyAndAFullMap();
    }

    private static void promise9() {
        heldOfMaps0To3();
        heldOfAnEmptyAndAFullMap();
        heldAreThoseIncludedThatItHas();
        heldOverAsManyIdeasAsThereAre();
        heldOfAlmostNothingIsAll();
        heldOnlyIfAllThreeAreDifferent();
        heldByLinksOfOneMap();
    }

    private static void promise10() {
        holdsInMaps0To3();
        holdsFromAndToIdeasOfTheMap();
        holdsOfKinds0To3();
        holdsRefusesTheSameIdea();
        holdsRefusesIdeasBeforeOtherArguments();
        holdsNothingInAnEmptyMap();
        holdsEachLinkOfAFullMap();
    }

    // ---- promise 1

    /** "Begins with empty maps" */
    private static void beginsWithEmptyMaps() {
        for (int map = 0; map < 4; map++) {
            ConceptMarker x = new ConceptMarker();
            int m = map;
            checks.due("ideas of a new map " + m, 0, () -> x.ideas(m));
            checks.due("links of a new map " + m, 0, () -> x.links(m));
            checks.due("held of a new map " + m, 0, () -> x.held(m));
            checks.throwsOutOfBounds("link in a new map " + m, () -> x.link(m, 0, 1, 0));
            checks.throwsOutOfBounds("holds in a new map " + m, () -> x.holds(m, 0, 1, 0));
            checks.due("clear of a new map " + m, 0, () -> x.clear(m));
            checks.due("the first idea of a new map " + m, 0, () -> x.addIdea(m, 0));
        }
    }

    /** "without synonyms" */
    private static void beginsWithoutSynonyms() {
        for (int one = 0; one < 32; one++) {
            for (int other = 0; other < 32; other++) {
                int w = one;
                int v = other;
                checks.due("new words " + w + " and " + v, w == v, () -> new ConceptMarker().synonyms(w, v));
            }
        }
    }

    /** "Two ideas are alike if their words are the same or synonyms." */
    private static void beginsWithNoWordsAlike() {
        for (int one = 0; one < 32; one++) {
            for (int other = 0; other < 32; other++) {
                ConceptMarker x = new ConceptMarker();
                x.addIdea(0, one);
                x.addIdea(1, other);
                int due = one == other ? 0 : -1;
                checks.due("new ideas of " + one + " and " + other, due, () -> x.matchOf(1, 0));
            }
        }
    }

    /** "and chains"; "at first none" */
    private static void beginsWithoutChains() {
        ConceptMarker x = new ConceptMarker();
        Examples.addIdeas(x, 0, 0, 1, 2, 3, 4);
        for (int kind = 0; kind < 4; kind++) {
            Examples.addLinks(x, 0, 10 + kind, 120 + kind, 230 + kind, 340 + kind, 400 + kind);
        }
        checks.due("held where every two kinds follow each other", 20, () -> x.held(0));
        for (int place = 0; place < 16; place++) {
            int first = place / 4;
            int second = place % 4;
            checks.due("new chain " + first + " " + second, -1, () -> x.chain(first, second, -1));
        }
    }

    /** "A new object": what was done with another one shows nothing. */
    private static void eachObjectBeginsAnew() {
        String shown = Shown.all(new ConceptMarker());
        ConceptMarker x = Edges.begun();
        checks.due("another object that is new", shown, () -> Shown.all(new ConceptMarker()));
        edges.sameShown("the one before stays", Edges.begun(), x);
    }

    // ---- promise 2

    /** "map: 0 to 3"; "if there is no such map" */
    private static void addIdeaToMaps0To3() {
        edges.range("addIdea to map", 0, 3, Edges.BOUNDS, (x, map) -> x.addIdea(map, 0));
        edges.refusedOutside("addIdea of no word to map", 0, 3, Edges.BOUNDS, (x, map) -> x.addIdea(map, 32));
    }

    /** "word: 0 to 31"; "or word" */
    private static void addIdeaOfWords0To31() {
        for (int map = 0; map < 4; map++) {
            int m = map;
            edges.range("addIdea to " + m + " of word", 0, 31, Edges.BOUNDS, (x, word) -> x.addIdea(m, word));
        }
    }

    /** "Returns its number."; "numbered from 0" */
    private static void addIdeaReturnsItsNumberFrom0() {
        ConceptMarker x = new ConceptMarker();
        for (int idea = 0; idea < 5; idea++) {
            for (int map = 3; map >= 0; map--) {
                int m = map;
                int word = 31 - idea;
                checks.due("idea " + idea + " of map " + m, idea, () -> x.addIdea(m, word));
            }
        }
    }

    /** "Two ideas of one map may have the same word." */
    private static void addIdeaOfTheSameWordFiveTimes() {
        for (int word : new int[] {0, 31}) {
            ConceptMarker x = Examples.twins(word, word, word, word, word);
            checks.due("ideas of the same word", 5, () -> x.ideas(0));
            for (int idea = 0; idea < 5; idea++) {
                int i = idea;
                checks.due("all have the word " + word, i, () -> x.matchOf(1, i));
            }
        }
    }

    /** "at most 5"; "if the map has 5 ideas" */
    private static void addIdeaRefusesTheSixth() {
        for (int map = 0; map < 4; map++) {
            int m = map;
            for (int word : new int[] {0, 5, 31}) {
                edges.refused("a sixth idea of map " + m, Edges.STATE, Edges.full(m), Edges.full(m),
                        x -> x.addIdea(m, word));
            }
            ConceptMarker x = Edges.full(m);
            for (int other = 0; other < 4; other++) {
                int o = other;
                if (o != m) {
                    checks.due("map " + o + " has room beside " + m, 3, () -> x.addIdea(o, 7));
                    checks.due("and once more", 4, () -> x.addIdea(o, 7));
                    checks.throwsState("and no more", () -> x.addIdea(o, 7));
                }
            }
            checks.throwsState("map " + m + " is full", () -> x.addIdea(m, 7));
            checks.throwsState("map " + m + " stays full", () -> x.addIdea(m, 7));
        }
    }

    /** "If several exceptions of a throws clause apply, the one that is listed first is thrown." */
    private static void addIdeaRefusesNoWordBeforeTheSixth() {
        for (int map = 0; map < 4; map++) {
            int m = map;
            for (int word : Edges.outside(0, 31)) {
                edges.refused("a sixth idea of word " + word, Edges.BOUNDS, Edges.full(m), Edges.full(m),
                        x -> x.addIdea(m, word));
            }
        }
    }

    /** "A call that throws an exception changes nothing.": the next idea gets the next number. */
    private static void addIdeaAfterARefusedOne() {
        ConceptMarker x = new ConceptMarker();
        x.addIdea(2, 3);
        checks.throwsOutOfBounds("no word", () -> x.addIdea(2, 32));
        checks.due("the next idea", 1, () -> x.addIdea(2, 4));
        checks.throwsOutOfBounds("no map", () -> x.addIdea(4, 3));
        checks.due("the one after it", 2, () -> x.addIdea(2, 4));
        checks.due("ideas of the other maps", 0, () -> x.ideas(0) + x.ideas(1) + x.ideas(3));
    }

    // ---- promise 3

    /** "map: 0 to 3"; "if there is no such map" */
    private static void linkInMaps0To3() {
        ConceptMarker x = Edges.three();
        for (int map = 0; map < 4; map++) {
            int m = map;
            checks.due("link in map " + m, true, () -> x.link(m, 0, 1, 3));
            checks.due("links of map " + m, 1, () -> x.links(m));
        }
        edges.refusedOutside("link in map", 0, 3, Edges.BOUNDS, (y, map) -> y.link(map, 0, 1, 0));
        edges.refusedOutside("link of all wrong in", 0, 3, Edges.BOUNDS, (y, map) -> y.link(map, 1, 1, 4));
    }

    /** "from: an idea of it"; "to: another one"; "if there is no such ... idea" */
    private static void linkFromAndToIdeasOfTheMap() {
        edges.accepted("pupil's link to 0 from", 1, 2, (x, from) -> x.link(0, from, 0, 1));
        edges.accepted("pupil's link to 2 from", 0, 1, (x, from) -> x.link(0, from, 2, 1));
        edges.accepted("pupil's link from 0 to", 1, 2, (x, to) -> x.link(0, 0, to, 1));
        edges.accepted("pupil's link from 2 to", 0, 1, (x, to) -> x.link(0, 2, to, 1));
        edges.refusedOutside("pupil's link from", 0, 2, Edges.BOUNDS, (x, from) -> x.link(0, from, 0, 1));
        edges.refusedOutside("pupil's link to", 0, 2, Edges.BOUNDS, (x, to) -> x.link(0, 0, to, 1));
        edges.accepted("link of model 1 to 3 from", 0, 2, (x, from) -> x.link(1, from, 3, 1));
        edges.accepted("link of model 1 from 3 to", 0, 2, (x, to) -> x.link(1, 3, to, 1));
        edges.refusedOutside("link of model 1 from", 0, 3, Edges.BOUNDS, (x, from) -> x.link(1, from, 3, 1));
        edges.refusedOutside("link of model 1 to", 0, 3, Edges.BOUNDS, (x, to) -> x.link(1, 3, to, 1));
    }

    /** "kind: 0 to 3"; "or there is no such kind" */
    private static void linkOfKinds0To3() {
        edges.range("link of kind", 0, 3, Edges.ARGUMENT, (x, kind) -> x.link(0, 0, 1, kind));
        edges.range("link of model 3 of kind", 0, 3, Edges.ARGUMENT, (x, kind) -> x.link(3, 3, 2, kind));
    }

    /** "if there is no such map or idea": the ideas of a map are those below its size. */
    private static void linkInMapsOfEachSize() {
        for (int map = 0; map < 4; map++) {
            int m = map;
            ConceptMarker x = Edges.full((m + 1) % 4);
            x.clear(m);
            for (int size = 0; size <= 5; size++) {
                int next = size;
                int last = size - 1;
                checks.throwsOutOfBounds("from " + next + " of " + size, () -> x.link(m, next, 0, 0));
                checks.throwsOutOfBounds("to " + next + " of " + size, () -> x.link(m, 0, next, 0));
                checks.throwsOutOfBounds("both " + next + " of " + size, () -> x.link(m, next, next, 0));
                if (size >= 2) {
                    checks.due("from " + last + " of " + size, true, () -> x.link(m, last, 0, 0));
                    checks.due("to " + last + " of " + size, true, () -> x.link(m, 0, last, 0));
                }
                if (size < 5) {
                    x.addIdea(m, size);
                }
            }
            checks.due("links that were accepted", 8, () -> x.links(m));
        }
    }

    /** "if both ideas are the same" */
    private static void linkRefusesTheSameIdea() {
        for (int map = 0; map < 4; map++) {
            for (int idea = 0; idea < 5; idea++) {
                int m = map;
                int i = idea;
                edges.refused("a link of " + i + " to itself", Edges.ARGUMENT, Edges.full(m), Edges.full(m),
                        x -> x.link(m, i, i, i % 4));
            }
        }
        edges.refused("a link of 2 to itself of no kind", Edges.ARGUMENT, x -> x.link(0, 2, 2, 4));
    }

    /** "Adds a link to a map, or takes it away if it is there."; "Returns whether it is there then." */
    private static void linkComesAndGoesInAFullMap() {
        for (int map = 0; map < 4; map++) {
            ConceptMarker x = new ConceptMarker();
            int m = map;
            Examples.addIdeas(x, m, 9, 9, 9, 9, 9);
            int there = 0;
            for (int link : Edges.linksOf(5)) {
                there++;
                checks.due("link " + link + " comes", true, () -> Edges.toggle(x, m, link));
                checks.due("links with " + link, there, () -> x.links(m));
            }
            for (int link : Edges.linksOf(5)) {
                there--;
                checks.due("link " + link + " goes", false, () -> Edges.toggle(x, m, link));
                checks.due("links without " + link, there, () -> x.links(m));
            }
            checks.due("a link comes to the map that is empty again", true, () -> x.link(m, 4, 3, 3));
        }
    }

    /** "in each direction one of each kind": each link comes and goes for itself. */
    private static void linkTakesAwayNoOther() {
        List<Integer> links = Edges.linksOf(5);
        for (int link : links) {
            ConceptMarker alone = new ConceptMarker();
            Examples.addIdeas(alone, 0, 0, 1, 2, 3, 4);
            Edges.toggle(alone, 0, link);
            ConceptMarker missing = new ConceptMarker();
            Examples.addIdeas(missing, 0, 0, 1, 2, 3, 4);
            Examples.addLinks(missing, 0, Edges.all(links));
            Edges.toggle(missing, 0, link);
            for (int other : links) {
                checks.due(other + " beside " + link, other == link, () -> Edges.holds(alone, 0, other));
                checks.due(other + " without " + link, other != link, () -> Edges.holds(missing, 0, other));
            }
        }
    }

    /** "If several exceptions of a throws clause apply, the one that is listed first is thrown." */
    private static void linkRefusesIdeasBeforeOtherArguments() {
        for (int map : new int[] {Integer.MIN_VALUE, -1, 0, 3, 4, Integer.MAX_VALUE}) {
            ConceptMarker x = Edges.three();
            for (int given = 0; given < 216; given++) {
                int from = TRIED[given / 36];
                int to = TRIED[given / 6 % 6];
                int kind = given % 6 == 3 ? 4 : given % 6 == 4 ? 3 : TRIED[given % 6];
                checks.due("link(" + map + ", " + from + ", " + to + ", " + kind + ")",
                        dueOfLink(map, from, to, kind, true), () -> x.link(map, from, to, kind));
            }
        }
    }

    /** What is due of link and holds in maps of 3 ideas. */
    private static Object dueOfLink(int map, int from, int to, int kind, boolean accepted) {
        if (Edges.isOutside(map, 4) || Edges.isOutside(from, 3) || Edges.isOutside(to, 3)) {
            return Edges.BOUNDS;
        }
        return from == to || Edges.isOutside(kind, 4) ? Edges.ARGUMENT : (Object) accepted;
    }

    // ---- promise 4

    /** "map: 0 to 3"; "if there is no such map" */
    private static void clearOfMaps0To3() {
        edges.range("clear of map", 0, 3, Edges.BOUNDS, (x, map) -> x.clear(map));
    }

    /** "Returns how many ideas and links, together.": of an empty map none, and of one idea 1 */
    private static void clearOfAnEmptyMap() {
        ConceptMarker x = Edges.full(0);
        for (int map = 0; map < 4; map++) {
            int m = map;
            x.clear(m);
            checks.due("clear of the empty map " + m, 0, () -> x.clear(m));
            x.addIdea(m, 31);
            checks.due("clear of the map " + m + " of one idea", 1, () -> x.clear(m));
            checks.due("clear once more", 0, () -> x.clear(m));
        }
    }

    /** "Returns how many ideas and links, together.": of a full map 5 and 80 */
    private static void clearOfAFullMap() {
        for (int map = 0; map < 4; map++) {
            ConceptMarker x = new ConceptMarker();
            int m = map;
            Examples.addIdeas(x, m, 1, 2, 3, 4, 5);
            Examples.addLinks(x, m, Edges.all(Edges.linksOf(5)));
            checks.due("clear of the full map " + m, 85, () -> x.clear(m));
            checks.due("ideas then", 0, () -> x.ideas(m));
            checks.due("links then", 0, () -> x.links(m));
            checks.due("held then", 0, () -> x.held(m));
            checks.throwsOutOfBounds("no idea is there", () -> x.holds(m, 0, 1, 0));
            checks.due("clear once more", 0, () -> x.clear(m));
        }
        ConceptMarker implied = new ConceptMarker();
        Examples.addIdeas(implied, 0, 1, 2, 3);
        implied.chain(0, 0, 0);
        Examples.addLinks(implied, 0, 10, 120);
        checks.due("links that are only held are not counted", 5, () -> implied.clear(0));
    }

    /** "Takes all ideas and links of a map away.": later ideas have none of the links and words. */
    private static void clearLeavesNoLinkAndNoWordBehind() {
        for (int map = 0; map < 4; map++) {
            ConceptMarker x = new ConceptMarker();
            ConceptMarker untouched = new ConceptMarker();
            Examples.addIdeas(x, map, 1, 2, 3, 4, 5);
            Examples.addLinks(x, map, Edges.all(Edges.linksOf(5)));
            x.clear(map);
            for (ConceptMarker one : new ConceptMarker[] {x, untouched}) {
                Examples.addIdeas(one, map == 0 ? 1 : 0, 1, 2, 3);
                Examples.addIdeas(one, map, 3, 31, 2, 31, 1);
                Examples.addLinks(one, map == 0 ? 1 : 0, 10, 120);
                Examples.addLinks(one, map, 200);
            }
            edges.sameShown("map " + map + " after clear", untouched, x);
        }
    }

    /** "Takes all ideas and links of a map away.": not those of others, synonyms and chains. */
    private static void clearLeavesTheRest() {
        for (int map = 0; map < 4; map++) {
            ConceptMarker x = Edges.begun();
            ConceptMarker rebuilt = Edges.begun();
            int m = map;
            for (int link : Edges.linksOf(rebuilt.ideas(m))) {
                if (holdsItself(rebuilt, m, link)) {
                    Edges.toggle(rebuilt, m, link);
                }
            }
            checks.due("links taken away one by one", 0, () -> rebuilt.links(m));
            int ideas = x.ideas(m);
            int links = x.links(m);
            checks.due("clear of map " + m, ideas + links, () -> x.clear(m));
            Examples.addIdeas(x, m, new int[][] {{0, 31, 7}, {31, 0, 8, 7}, {31}, {8, 31, 22, 0}}[m]);
            edges.sameShown("what is left beside map " + m, rebuilt, x);
        }
    }

    /** Whether a map has a link, and not only holds it. */
    private static boolean holdsItself(ConceptMarker x, int map, int link) {
        Edges.toggle(x, map, link);
        return Edges.toggle(x, map, link);
    }

    /** "if the map has 5 ideas": after clear it has none. */
    private static void clearMakesRoomForFiveIdeas() {
        for (int map = 0; map < 4; map++) {
            int m = map;
            ConceptMarker x = Edges.full(m);
            x.clear(m);
            for (int idea = 0; idea < 5; idea++) {
                int due = idea;
                checks.due("idea " + due + " after clear", due, () -> x.addIdea(m, 31));
            }
            checks.throwsState("a sixth idea after clear", () -> x.addIdea(m, 31));
        }
    }

    // ---- promise 5

    /** "one: 0 to 31"; "other: 0 to 31"; "if there is no such word" */
    private static void synonymsOfWords0To31() {
        edges.range("synonyms of", 0, 31, Edges.BOUNDS, (x, word) -> x.synonyms(word, 3));
        edges.range("synonyms with", 0, 31, Edges.BOUNDS, (x, word) -> x.synonyms(3, word));
        edges.range("synonyms of and with", 0, 31, Edges.BOUNDS, (x, word) -> x.synonyms(word, word));
    }

    /** "or are the same": each word, and nothing is made by it */
    private static void synonymsOfTheSameWord() {
        ConceptMarker x = Edges.begun();
        for (int word = 0; word < 32; word++) {
            int w = word;
            checks.due("synonyms of the same word " + w, true, () -> x.synonyms(w, w));
        }
        edges.sameShown("what is shown after it", Edges.begun(), x);
    }

    /** "or are the same": but "if there is no such word" an exception is thrown */
    private static void synonymsOfNoWordAreNotTheSame() {
        ConceptMarker x = new ConceptMarker();
        for (int word : Edges.outside(0, 31)) {
            for (int other : new int[] {-1, 32, word}) {
                checks.throwsOutOfBounds("words " + word + " and " + other, () -> x.synonyms(word, other));
            }
        }
    }

    /** "Returns whether they were synonyms": before the call, in both orders */
    private static void synonymsTellWhetherTheyWere() {
        for (int word = 1; word < 32; word++) {
            ConceptMarker x = new ConceptMarker();
            int w = word;
            checks.due("0 and " + w, false, () -> x.synonyms(0, w));
            checks.due("0 and " + w + " again", true, () -> x.synonyms(0, w));
            checks.due(w + " and 0", true, () -> x.synonyms(w, 0));
            checks.due("another pair", false, () -> x.synonyms(w == 31 ? 30 : 31, w == 1 ? 2 : 1));
        }
    }

    /** "a synonym of a synonym of a word is a synonym of it, too": from the first word to the last */
    private static void synonymsOfSynonyms() {
        for (int step : new int[] {1, -1}) {
            ConceptMarker x = new ConceptMarker();
            for (int count = 0; count < 31; count++) {
                int word = step == 1 ? count : 31 - count;
                checks.due(word + " and its neighbour", false, () -> x.synonyms(word, word + step));
            }
            for (int word = 0; word < 32; word++) {
                int w = word;
                checks.due("0 and " + w, true, () -> x.synonyms(0, w));
                checks.due(w + " and 31", true, () -> x.synonyms(w, 31));
            }
        }
    }

    /** "a synonym of a synonym": two words bring all their synonyms with them */
    private static void synonymsOfTwoHalves() {
        for (int one = 0; one < 16; one++) {
            ConceptMarker x = new ConceptMarker();
            for (int word = 1; word < 16; word++) {
                x.synonyms(word, word - 1);
                x.synonyms(15 + word, 16 + word);
            }
            int w = one;
            checks.due("two words of two halves", false, () -> x.synonyms(w, 31 - w));
            for (int other = 0; other < 32; other++) {
                int v = other;
                checks.due("a word of one half and " + v, true, () -> x.synonyms(15 - w, v));
            }
        }
    }

    /** "synonyms": of all words, told when the ideas are there already */
    private static void synonymsOfAllWords() {
        ConceptMarker x = new ConceptMarker();
        Examples.addIdeas(x, 0, 0, 7, 15, 30, 31);
        Examples.addIdeas(x, 3, 1, 6, 16, 29, 5);
        for (int idea = 0; idea < 5; idea++) {
            int i = idea;
            checks.due("idea " + i + " before", -1, () -> x.matchOf(3, i));
        }
        for (int word = 1; word < 32; word++) {
            x.synonyms(word, 0);
        }
        for (int idea = 0; idea < 5; idea++) {
            int i = idea;
            checks.due("idea " + i + " of all alike", i, () -> x.matchOf(3, i));
        }
        x.clear(0);
        x.addIdea(0, 12);
        checks.due("synonyms are there for later ideas", 0, () -> x.matchOf(3, 0));
    }

    // ---- promise 6

    /** "first: a kind"; "second: the kind behind it"; "if there is no such kind first or second" */
    private static void chainOfKinds0To3() {
        edges.range("chain first", 0, 3, Edges.ARGUMENT, (x, first) -> x.chain(first, 1, 2));
        edges.range("chain second", 0, 3, Edges.ARGUMENT, (x, second) -> x.chain(1, second, 2));
        edges.range("chain first and second", 0, 3, Edges.ARGUMENT, (x, kind) -> x.chain(kind, kind, 2));
        edges.range("chain first for none", 0, 3, Edges.ARGUMENT, (x, first) -> x.chain(first, 1, -1));
    }

    /** "implied: the kind that both imply; NONE for none"; "implied is neither a kind nor NONE" */
    private static void chainImpliesNoneOrAKind() {
        edges.range("chain implied", -1, 3, Edges.ARGUMENT, (x, implied) -> x.chain(0, 1, implied));
        ConceptMarker x = new ConceptMarker();
        Examples.addIdeas(x, 0, 0, 1, 2);
        Examples.addLinks(x, 0, 10, 120);
        for (int kind = -1; kind < 4; kind++) {
            x.chain(0, 0, kind);
            for (int asked = 0; asked < 4; asked++) {
                int due = kind;
                int a = asked;
                checks.due("kind " + a + " implied by " + due, a == due, () -> x.holds(0, 0, 2, a));
            }
        }
    }

    /** "Returns the kind that they implied before; NONE." */
    private static void chainReturnsWhatWasBefore() {
        ConceptMarker x = new ConceptMarker();
        int before = -1;
        for (int kind : new int[] {-1, 0, 0, 3, 1, 2, -1, -1, 3, 3, 0, -1}) {
            int due = before;
            checks.due("before the chain to " + kind, due, () -> x.chain(3, 0, kind));
            before = kind;
        }
    }

    /** "each kind and each kind behind it (perhaps the same)" */
    private static void chainOfTheSameKindTwice() {
        for (int kind = 0; kind < 4; kind++) {
            ConceptMarker x = new ConceptMarker();
            int k = kind;
            Examples.addIdeas(x, 0, 0, 1, 2);
            Examples.addLinks(x, 0, 10 + k, 120 + k);
            checks.due("chain of " + k + " twice", -1, () -> x.chain(k, k, k));
            checks.due("it implies the same", true, () -> x.holds(0, 0, 2, k));
            checks.due("held then", 3, () -> x.held(0));
        }
    }

    /** "For each kind and each kind behind it": each chain for itself, first before second */
    private static void chainsAreSixteen() {
        for (int told = 0; told < 16; told++) {
            ConceptMarker x = new ConceptMarker();
            x.chain(told / 4, told % 4, 3);
            Examples.addIdeas(x, 0, 0, 1, 2);
            for (int place = 0; place < 16; place++) {
                int first = place / 4;
                int second = place % 4;
                Examples.addLinks(x, 0, 10 + first, 120 + second);
                checks.due("links " + place + " by chain " + told, place == told, () -> x.holds(0, 0, 2, 3));
                x.link(0, 0, 1, first);
                x.link(0, 1, 2, second);
            }
            for (int place = 0; place < 16; place++) {
                int p = place;
                checks.due("chain " + p, p == told ? 3 : -1, () -> x.chain(p / 4, p % 4, 0));
            }
        }
    }

    /** "A call that throws an exception changes nothing.": what the next one returns */
    private static void chainAfterARefusedOne() {
        ConceptMarker x = new ConceptMarker();
        x.chain(0, 0, 2);
        checks.throwsArgument("implied 4", () -> x.chain(0, 0, 4));
        checks.throwsArgument("implied -2", () -> x.chain(0, 0, -2));
        checks.throwsArgument("first -1", () -> x.chain(-1, 4, 1));
        checks.throwsArgument("second 4", () -> x.chain(0, 4, 1));
        checks.due("chain 0 0", 2, () -> x.chain(0, 0, 1));
        checks.due("chain 0 3", -1, () -> x.chain(0, 3, 1));
        checks.due("chain 1 0", -1, () -> x.chain(1, 0, 1));
    }

    // ---- promises 7 and 8

    /** "map: 0 to 3"; "if there is no such map" */
    private static void ideasOfMaps0To3() {
        edges.range("ideas of map", 0, 3, Edges.BOUNDS, (x, map) -> x.ideas(map));
    }

    /** "Returns how many ideas a map has.": 0 to 5 */
    private static void ideasOfEachSize() {
        ConceptMarker x = new ConceptMarker();
        for (int size = 0; size <= 5; size++) {
            for (int map = 0; map < 4; map++) {
                int m = map;
                int due = size;
                checks.due("ideas of map " + m, due, () -> x.ideas(m));
                Checks.answerOf(() -> x.addIdea(m, 31));
                checks.due("ideas of map " + m + " then", Math.min(5, due + 1), () -> x.ideas(m));
            }
        }
    }

    /** "map: 0 to 3"; "if there is no such map" */
    private static void linksOfMaps0To3() {
        edges.range("links of map", 0, 3, Edges.BOUNDS, (x, map) -> x.links(map));
    }

    /** "Returns how many links a map has.": 0 to 80, and none that it only holds */
    private static void linksOfAnEmptyAndAFullMap() {
        for (int map = 0; map < 4; map++) {
            ConceptMarker x = new ConceptMarker();
            int m = map;
            checks.due("links of an empty map", 0, () -> x.links(m));
            x.addIdea(m, 0);
            checks.due("links of a map of one idea", 0, () -> x.links(m));
            Examples.addIdeas(x, m, 1, 2, 3, 4);
            x.chain(0, 0, 0);
            Examples.addLinks(x, m, 10, 120, 230, 340, 400);
            checks.due("links that imply others", 5, () -> x.links(m));
            x.clear(m);
            Examples.addIdeas(x, m, 0, 1, 2, 3, 4);
            Examples.addLinks(x, m, Edges.all(Edges.linksOf(5)));
            checks.due("links of a full map", 80, () -> x.links(m));
            checks.throwsArgument("one more is refused", () -> x.link(m, 0, 1, 4));
            checks.due("links of a full map then", 80, () -> x.links(m));
        }
    }

    // ---- promise 9

    /** "map: 0 to 3"; "if there is no such map" */
    private static void heldOfMaps0To3() {
        edges.range("held of map", 0, 3, Edges.BOUNDS, (x, map) -> x.held(map));
    }

    /** "Returns how many links a map holds": 0 to 80 */
    private static void heldOfAnEmptyAndAFullMap() {
        for (int map = 0; map < 4; map++) {
            ConceptMarker x = new ConceptMarker();
            int m = map;
            for (int place = 0; place < 16; place++) {
                x.chain(place / 4, place % 4, place / 4);
            }
            checks.due("held of an empty map", 0, () -> x.held(m));
            x.addIdea(m, 0);
            checks.due("held of a map of one idea", 0, () -> x.held(m));
            Examples.addIdeas(x, m, 0, 0, 0, 0);
            checks.due("held of a map without links", 0, () -> x.held(m));
            Examples.addLinks(x, m, Edges.all(Edges.linksOf(5)));
            checks.due("held of a full map", 80, () -> x.held(m));
        }
    }

    /** "those that it has included": and each counts once, though it is implied too */
    private static void heldAreThoseIncludedThatItHas() {
        ConceptMarker x = new ConceptMarker();
        Examples.addIdeas(x, 2, 0, 1, 2, 3);
        Examples.addLinks(x, 2, 303);
        checks.due("held of one link", 1, () -> x.held(2));
        x.chain(0, 0, 0);
        Examples.addLinks(x, 2, 10, 120);
        checks.due("held of two links that imply one", 4, () -> x.held(2));
        Examples.addLinks(x, 2, 20);
        checks.due("held of one that is had and implied", 4, () -> x.held(2));
        x.link(2, 0, 1, 0);
        checks.due("held of one that is had and no more implied", 3, () -> x.held(2));
        Examples.addLinks(x, 2, 10);
        x.link(2, 0, 2, 0);
        checks.due("held of one that is implied and no more had", 4, () -> x.held(2));
    }

    /** "there is an idea b so that the map holds a link": it may be implied itself, both may */
    private static void heldOverAsManyIdeasAsThereAre() {
        int[][] orders = {{0, 1, 2, 3, 4}, {4, 3, 2, 1, 0}, {2, 0, 4, 1, 3}, {3, 1, 4, 0, 2}};
        for (int[] order : orders) {
            ConceptMarker first = new ConceptMarker();
            ConceptMarker last = new ConceptMarker();
            ConceptMarker both = new ConceptMarker();
            for (ConceptMarker x : new ConceptMarker[] {first, last, both}) {
                Examples.addIdeas(x, 0, 0, 1, 2, 3, 4);
            }
            for (int step = 0; step < 4; step++) {
                first.link(0, order[step], order[step + 1], step == 0 ? 1 : 0);
                last.link(0, order[step], order[step + 1], step == 3 ? 1 : 0);
                both.link(0, order[step], order[step + 1], step % 2);
            }
            first.chain(1, 0, 1);
            last.chain(0, 1, 1);
            both.chain(0, 1, 2);
            both.chain(2, 2, 3);
            checks.due("from the first on", true, () -> first.holds(0, order[0], order[4], 1));
            checks.due("held from the first on", 7, () -> first.held(0));
            checks.due("up to the last", true, () -> last.holds(0, order[0], order[4], 1));
            checks.due("held up to the last", 7, () -> last.held(0));
            checks.due("by two that are implied", true, () -> both.holds(0, order[0], order[4], 3));
            checks.due("held by two that are implied", 7, () -> both.held(0));
        }
    }

    /** "or if it is implied": eight links imply all others of a full map */
    private static void heldOfAlmostNothingIsAll() {
        ConceptMarker x = ring();
        checks.due("links of the ring", 8, () -> x.links(1));
        checks.due("held of the ring", 80, () -> x.held(1));
        for (int link : Edges.linksOf(5)) {
            checks.due("the ring holds " + link, true, () -> Edges.holds(x, 1, link));
        }
        x.chain(0, 0, -1);
        checks.due("held where kind 0 alone implies nothing", 35, () -> x.held(1));
    }

    /** A marker whose model 1 has 8 links and holds all 80. */
    private static ConceptMarker ring() {
        ConceptMarker x = new ConceptMarker();
        Examples.addIdeas(x, 1, 0, 1, 2, 3, 4);
        Examples.addLinks(x, 1, 10, 120, 230, 340, 400, 11, 12, 13);
        x.chain(0, 0, 0);
        for (int kind = 1; kind < 4; kind++) {
            x.chain(0, kind, kind);
            x.chain(kind, 0, kind);
        }
        return x;
    }

    /** "c being another idea than a"; "(Ideas a, b and c are all different.)" */
    private static void heldOnlyIfAllThreeAreDifferent() {
        for (int pair = 0; pair < 20; pair++) {
            int one = pair / 4;
            int other = pair % 4 < one ? pair % 4 : pair % 4 + 1;
            ConceptMarker x = new ConceptMarker();
            Examples.addIdeas(x, 0, 0, 1, 2, 3, 4);
            for (int place = 0; place < 16; place++) {
                x.chain(place / 4, place % 4, place % 4);
            }
            for (int kind = 0; kind < 4; kind++) {
                x.link(0, one, other, kind);
            }
            x.link(0, other, one, 2);
            checks.due("held from " + one + " to " + other + " and back", 5, () -> x.held(0));
            for (int kind = 0; kind < 4; kind++) {
                int k = kind;
                checks.due("of kind " + k + " there", true, () -> x.holds(0, one, other, k));
                checks.due("of kind " + k + " back", k == 2, () -> x.holds(0, other, one, k));
            }
        }
        ConceptMarker two = new ConceptMarker();
        Examples.addIdeas(two, 3, 0, 1);
        Examples.addLinks(two, 3, 10, 101);
        two.chain(0, 1, 2);
        two.chain(1, 0, 3);
        checks.due("held of two ideas", 2, () -> two.held(3));
    }

    /** "there is an idea b so that the map holds": both links are of the same map */
    private static void heldByLinksOfOneMap() {
        ConceptMarker x = Edges.three();
        x.chain(0, 0, 0);
        for (int map = 0; map < 4; map++) {
            Examples.addLinks(x, map, map % 2 == 0 ? 10 : 120);
        }
        for (int map = 0; map < 4; map++) {
            int m = map;
            checks.due("held of map " + m, 1, () -> x.held(m));
            checks.due("map " + m + " holds 0 to 2", false, () -> x.holds(m, 0, 2, 0));
        }
    }

    // ---- promise 10

    /** "map: 0 to 3"; "if there is no such map" */
    private static void holdsInMaps0To3() {
        ConceptMarker x = Edges.three();
        for (int map = 0; map < 4; map++) {
            int m = map;
            checks.due("holds in map " + m, false, () -> x.holds(m, 0, 1, 3));
            x.link(m, 0, 1, 3);
            checks.due("holds in map " + m + " then", true, () -> x.holds(m, 0, 1, 3));
        }
        edges.refusedOutside("holds in map", 0, 3, Edges.BOUNDS, (y, map) -> y.holds(map, 0, 1, 0));
        edges.refusedOutside("holds of all wrong in", 0, 3, Edges.BOUNDS, (y, map) -> y.holds(map, 1, 1, 4));
    }

    /** "from: an idea of it"; "to: another one"; "if there is no such ... idea" */
    private static void holdsFromAndToIdeasOfTheMap() {
        edges.accepted("pupil holds to 0 from", 1, 2, (x, from) -> x.holds(0, from, 0, 1));
        edges.accepted("pupil holds to 2 from", 0, 1, (x, from) -> x.holds(0, from, 2, 1));
        edges.accepted("pupil holds from 0 to", 1, 2, (x, to) -> x.holds(0, 0, to, 1));
        edges.accepted("pupil holds from 2 to", 0, 1, (x, to) -> x.holds(0, 2, to, 1));
        edges.refusedOutside("pupil holds from", 0, 2, Edges.BOUNDS, (x, from) -> x.holds(0, from, 0, 1));
        edges.refusedOutside("pupil holds to", 0, 2, Edges.BOUNDS, (x, to) -> x.holds(0, 0, to, 1));
        edges.accepted("model 1 holds to 3 from", 0, 2, (x, from) -> x.holds(1, from, 3, 1));
        edges.accepted("model 1 holds from 3 to", 0, 2, (x, to) -> x.holds(1, 3, to, 1));
        edges.refusedOutside("model 1 holds from", 0, 3, Edges.BOUNDS, (x, from) -> x.holds(1, from, 3, 1));
        edges.refusedOutside("model 1 holds to", 0, 3, Edges.BOUNDS, (x, to) -> x.holds(1, 3, to, 1));
    }

    /** "kind: 0 to 3"; "or there is no such kind" */
    private static void holdsOfKinds0To3() {
        edges.range("holds of kind", 0, 3, Edges.ARGUMENT, (x, kind) -> x.holds(0, 0, 1, kind));
        edges.range("model 3 holds of kind", 0, 3, Edges.ARGUMENT, (x, kind) -> x.holds(3, 3, 2, kind));
    }

    /** "if both ideas are the same" */
    private static void holdsRefusesTheSameIdea() {
        edges.refused("holds of 2 and itself", Edges.ARGUMENT, x -> x.holds(0, 2, 2, 0));
        for (int map = 0; map < 4; map++) {
            ConceptMarker x = Edges.full(map);
            for (int idea = 0; idea < 5; idea++) {
                int m = map;
                int i = idea;
                checks.throwsArgument("holds of " + i + " and itself", () -> x.holds(m, i, i, i % 4));
                checks.throwsArgument("holds of " + i + " and itself of no kind", () -> x.holds(m, i, i, -1));
            }
        }
    }

    /** "If several exceptions of a throws clause apply, the one that is listed first is thrown." */
    private static void holdsRefusesIdeasBeforeOtherArguments() {
        for (int map : new int[] {Integer.MIN_VALUE, -1, 0, 3, 4, Integer.MAX_VALUE}) {
            ConceptMarker x = Edges.three();
            for (int given = 0; given < 216; given++) {
                int from = TRIED[given / 36];
                int to = TRIED[given / 6 % 6];
                int kind = given % 6 == 3 ? 4 : given % 6 == 4 ? 3 : TRIED[given % 6];
                checks.due("holds(" + map + ", " + from + ", " + to + ", " + kind + ")",
                        dueOfLink(map, from, to, kind, false), () -> x.holds(map, from, to, kind));
            }
        }
    }

    /** "if there is no such ... idea": an empty map has none, a map of one idea no other one */
    private static void holdsNothingInAnEmptyMap() {
        for (int map = 0; map < 4; map++) {
            int m = map;
            ConceptMarker x = Edges.full((m + 1) % 4);
            x.clear(m);
            for (int size = 0; size <= 5; size++) {
                int next = size;
                int last = size - 1;
                checks.throwsOutOfBounds("from " + next + " of " + size, () -> x.holds(m, next, 0, 0));
                checks.throwsOutOfBounds("to " + next + " of " + size, () -> x.holds(m, 0, next, 0));
                checks.throwsOutOfBounds("both " + next + " of " + size, () -> x.holds(m, next, next, 0));
                if (size >= 2) {
                    checks.due("from " + last + " of " + size, false, () -> x.holds(m, last, 0, 0));
                    checks.due("to " + last + " of " + size, false, () -> x.holds(m, 0, last, 0));
                }
                if (size < 5) {
                    x.addIdea(m, size);
                }
            }
        }
    }

    /** "Tells whether a map holds a link.": all of a full map, and none of one without links */
    private static void holdsEachLinkOfAFullMap() {
        for (int map = 0; map < 4; map++) {
            ConceptMarker x = new ConceptMarker();
            int m = map;
            Examples.addIdeas(x, m, 0, 1, 2, 3, 4);
            for (int link : Edges.linksOf(5)) {
                checks.due("without links " + link, false, () -> Edges.holds(x, m, link));
            }
            Examples.addLinks(x, m, Edges.all(Edges.linksOf(5)));
            for (int link : Edges.linksOf(5)) {
                checks.due("with all links " + link, true, () -> Edges.holds(x, m, link));
            }
        }
    }
}
