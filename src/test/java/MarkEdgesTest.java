import java.util.List;

/**
 * Promises 11 to 19 at their edges: for each sentence of the document that names one a method,
 * which begins with the sentence.
 */
public final class MarkEdgesTest {
    private static final Checks checks = new Checks();
    private static final Edges edges = new Edges(checks);
    private static final List<Integer> ALL_LINKS = Edges.linksOf(5);
    private static final int[] TRIED = {Integer.MIN_VALUE, -1, 0, 2, 3, Integer.MAX_VALUE};
    private static final int[] TRIED_MODELS = {Integer.MIN_VALUE, -1, 0, 1, 3, 4, Integer.MAX_VALUE};

    private MarkEdgesTest() {
    }

    public static void main(String[] args) {
        models();
        promises11And12();
        promise13();
        promise14();
        promise15();
        promise16();
        promise17();
        promises18And19();
        callsOfAnObject();
        checks.end("MarkEdgesTest");
    }

    private static void models() {
        modelsAre1To3();
        modelsAreMarkedEachForItself();
        marksOfAnEmptyPupilsMap();
        marksOfAnEmptyModel();
        marksOfFullMaps();
        marksOfFullMapsOfOneWord();
        marksChangeNothing();
        marksAfterThoseOfAnotherModel();
        marksAfterThoseOfLargerMaps();
    }

    private static void promises11And12() {
        pointsOfALinkThatIsHeld();
        pointsOfALinkOfAWrongKind();
        pointsOfALinkThatIsReversed();
        pointsOfALinkThatIsMissing();
        pointsOfTheFirstThatApplies();
        pointsOfWhatIsOnlyHeld();
        pointsOfWhatTheModelOnlyHolds();
        pointsOfAllLinks();
        pointsWithDifferentOnesForDifferentIdeas();
        pointsOfNoneForTheRest();
        pointsOfTheBestOfAllMatchings();
    }

    private static void promise13() {
        markOfNoLinks();
        markRoundedDown();
        markBelow100();
        markByLinksThatTheModelHas();
    }

    private static void promise14() {
        bestModelIsTheGreatestAndLowest();
        bestModelByRoundedMarks();
        bestModelOfNewAndClearedMaps();
    }

    private static void promise15() {
        matchOfIdeasOfThePupil();
        matchOfIdeasOfEachSize();
        matchOfBothArgumentsWrong();
        matchOfNone();
        matchOfTheLowestAndNoneLast();
        matchOfTheLowestForEachIdea();
        matchOfTheMostPointsBeforeTheLowest();
        matchOfIdea0BeforeIdea1();
    }

    private static void promise16() {
        verdictFromAndToIdeasOfTheModel();
        verdictOfKinds0To3();
        verdictRefusesTheSameIdea();
        verdictRefusesALinkThatIsNotThere();
        verdictRefusesInOrder();
        verdictOfIdeasGivenToNone();
        verdictOfALinkThatIsHeld();
        verdictOfALinkThatIsNotHeld();
    }

    private static void promise17() {
        lackingOfEachSize();
        lackingOfOtherWords();
    }

    private static void promises18And19() {
        hintIsTheOnlyLink();
        hintInThePupilsNumbers();
        hintFromAndToAnyOfThePupils();
        hintIsTheLowestOfTwo();
        hintIsTheGreatest();
        hintOfAMapThatLacksOne();
        hintIfNoneWouldMakeItGreater();
        hintOfAFullPupilsMap();
        hintThatImpliesTheRest();
        gainOfOnePoint();
        gainOfEachVerdict();
    }

    private static void callsOfAnObject() {
        theLastOf512Calls();
        theDearestOf512Calls();
    }

    private static int verdict(ConceptMarker x, int model, int link) {
        return x.verdict(model, link / 100, link / 10 % 10, link % 10);
    }

    /** The same link in the other direction. */
    private static int back(int link) {
        return link / 10 % 10 * 100 + link / 100 * 10 + link % 10;
    }

    /** The same link of the kind that is so many higher, beginning again with 0 after 3. */
    private static int ofKind(int link, int higher) {
        return link / 10 * 10 + (link % 10 + higher) % 4;
    }

    private static void duePoints(String what, int due, ConceptMarker x, int model) {
        checks.due(what + ": points", due, () -> x.points(model));
        checks.due(what + ": points by trying", due, () -> x.pointsByTrying(model));
    }

    private static void dueHint(String what, int hint, int gain, ConceptMarker x, int model) {
        checks.due(what + ": hint", hint, () -> x.hint(model));
        checks.due(what + ": gain", gain, () -> x.gain(model));
    }

    private static void dueMatching(String what, ConceptMarker x, int model, int... due) {
        for (int idea = 0; idea < due.length; idea++) {
            int i = idea;
            checks.due(what + ": matchOf idea " + i, due[i], () -> x.matchOf(model, i));
        }
    }

    /** Five ideas of five words in the pupil's map and in model 1, and a link in the model. */
    private static ConceptMarker fiveWith(int link) {
        ConceptMarker marker = Examples.twins(0, 1, 2, 3, 4);
        Edges.toggle(marker, 1, link);
        return marker;
    }

    // ---- models

    /** "model: 1 to 3"; "if there is no such model" */
    private static void modelsAre1To3() {
        edges.range("points of", 1, 3, Edges.BOUNDS, (x, model) -> x.points(model));
        edges.range("pointsByTrying of", 1, 3, Edges.BOUNDS, (x, model) -> x.pointsByTrying(model));
        edges.range("mark of", 1, 3, Edges.BOUNDS, (x, model) -> x.mark(model));
        edges.range("matchOf of", 1, 3, Edges.BOUNDS, (x, model) -> x.matchOf(model, 0));
        edges.range("lacking of", 1, 3, Edges.BOUNDS, (x, model) -> x.lacking(model));
        edges.range("hint of", 1, 3, Edges.BOUNDS, (x, model) -> x.hint(model));
        edges.range("gain of", 1, 3, Edges.BOUNDS, (x, model) -> x.gain(model));
        edges.refusedOutside("verdict of", 1, 3, Edges.BOUNDS, (x, model) -> x.verdict(model, 0, 1, 0));
        for (int model = 1; model < 4; model++) {
            int m = model;
            ConceptMarker x = Edges.three();
            x.link(m, 2, 0, 3);
            checks.due("verdict of " + m, 0, () -> x.verdict(m, 2, 0, 3));
        }
    }

    /** "There are 4 maps: 0 is that of the pupil, 1 to 3 are models." */
    private static void modelsAreMarkedEachForItself() {
        for (int model = 1; model < 4; model++) {
            ConceptMarker x = Edges.three();
            x.addIdea(model, 9);
            Examples.addLinks(x, 0, 10);
            Examples.addLinks(x, model, 10, 120);
            for (int asked = 1; asked < 4; asked++) {
                String what = "model " + asked + " beside " + model;
                boolean it = asked == model;
                int a = asked;
                duePoints(what, it ? 4 : 0, x, a);
                dueHint(what, it ? 120 : -1, it ? 4 : 0, x, a);
                checks.due(what + ": mark", it ? 50 : 0, () -> x.mark(a));
                checks.due(what + ": lacking", it ? 1 : 0, () -> x.lacking(a));
                checks.due(what + ": verdict", it ? 3 : Edges.STATE, () -> x.verdict(a, 0, 1, 0));
            }
            int m = model;
            checks.due("the only model with a link", m, x::bestModel);
        }
    }

    /** "A map has ideas, at most 5": a pupil's map that has none */
    private static void marksOfAnEmptyPupilsMap() {
        for (int model = 1; model < 4; model++) {
            int m = model;
            ConceptMarker x = new ConceptMarker();
            Examples.addIdeas(x, m, 0, 0, 0, 0, 0);
            Examples.addLinks(x, m, Edges.all(ALL_LINKS));
            duePoints("without a pupil's map", 0, x, m);
            dueHint("without a pupil's map", -1, 0, x, m);
            checks.due("mark without a pupil's map", 0, () -> x.mark(m));
            checks.due("bestModel without a pupil's map", m, x::bestModel);
            checks.due("lacking without a pupil's map", 5, () -> x.lacking(m));
            checks.due("verdict without a pupil's map", 0, () -> x.verdict(m, 0, 1, 0));
            checks.throwsOutOfBounds("matchOf without a pupil's map", () -> x.matchOf(m, 0));
        }
    }

    /** "A map has ideas, at most 5": a model that has none */
    private static void marksOfAnEmptyModel() {
        for (int model = 1; model < 4; model++) {
            int m = model;
            ConceptMarker x = new ConceptMarker();
            Examples.addIdeas(x, 0, 0, 0, 0, 0, 0);
            Examples.addLinks(x, 0, Edges.all(ALL_LINKS));
            duePoints("without a model", 0, x, m);
            dueHint("without a model", -1, 0, x, m);
            checks.due("mark without a model", 0, () -> x.mark(m));
            checks.due("bestModel without a model", -1, x::bestModel);
            checks.due("lacking without a model", 0, () -> x.lacking(m));
            checks.throwsOutOfBounds("verdict without a model", () -> x.verdict(m, 0, 1, 0));
            dueMatching("without a model", x, m, -1, -1, -1, -1, -1);
        }
    }

    /** "at most 5"; "in each direction one of each kind": all 80 links of full maps */
    private static void marksOfFullMaps() {
        for (int model = 1; model < 4; model++) {
            int m = model;
            ConceptMarker x = new ConceptMarker();
            Examples.addIdeas(x, 0, 31, 3, 7, 0, 15);
            Examples.addIdeas(x, m, 0, 15, 31, 7, 3);
            Examples.addLinks(x, 0, Edges.all(ALL_LINKS));
            Examples.addLinks(x, m, Edges.all(ALL_LINKS));
            dueFull("full maps", x, m);
            dueMatching("full maps", x, m, 2, 4, 3, 0, 1);
        }
    }

    private static void dueFull(String what, ConceptMarker x, int model) {
        duePoints(what, 320, x, model);
        dueHint(what, -1, 0, x, model);
        checks.due(what + ": mark", 100, () -> x.mark(model));
        checks.due(what + ": best model", model, x::bestModel);
        checks.due(what + ": lacking", 0, () -> x.lacking(model));
        for (int link : ALL_LINKS) {
            checks.due(what + ": verdict of " + link, 3, () -> verdict(x, model, link));
        }
    }

    /** "Two ideas of one map may have the same word.": all of full maps */
    private static void marksOfFullMapsOfOneWord() {
        for (int model = 1; model < 4; model++) {
            ConceptMarker x = new ConceptMarker();
            Examples.addIdeas(x, 0, 31, 31, 31, 31, 31);
            Examples.addIdeas(x, model, 31, 31, 31, 31, 31);
            Examples.addLinks(x, 0, Edges.all(ALL_LINKS));
            Examples.addLinks(x, model, Edges.all(ALL_LINKS));
            dueFull("full maps of one word", x, model);
            dueMatching("full maps of one word", x, model, 0, 1, 2, 3, 4);
        }
    }

    /** "Returns": what only returns something changes nothing, refused or not. */
    private static void marksChangeNothing() {
        for (int model = 1; model < 4; model++) {
            ConceptMarker x = Edges.begun();
            int m = model;
            for (int round = 0; round < 2; round++) {
                Edges.Call[] calls = {
                    y -> y.points(m), y -> y.pointsByTrying(m), y -> y.mark(m), y -> y.bestModel(),
                    y -> y.matchOf(m, 0), y -> y.lacking(m), y -> y.hint(m), y -> y.gain(m),
                    y -> y.verdict(m, 0, 1, 0), y -> y.verdict(m, 0, 1, 3), y -> y.ideas(m),
                    y -> y.links(m), y -> y.held(m), y -> y.holds(m, 0, 1, 0), y -> y.held(0)};
                for (Edges.Call call : calls) {
                    Checks.answerOf(() -> call.on(x));
                }
            }
            edges.sameShown("what is shown after what only asks", Edges.begun(), x);
        }
    }

    /** "MISSING, if one of both ideas of the model is given to no idea": whatever was asked before */
    private static void marksAfterThoseOfAnotherModel() {
        Edges.Call[] before = {
            x -> x.points(2), x -> x.pointsByTrying(2), x -> x.mark(2), x -> x.bestModel(),
            x -> x.matchOf(2, 0), x -> x.lacking(2), x -> x.hint(2), x -> x.gain(2),
            x -> x.verdict(2, 0, 1, 0)};
        for (Edges.Call call : before) {
            ConceptMarker x = new ConceptMarker();
            Examples.addIdeas(x, 0, 0, 1);
            Examples.addIdeas(x, 1, 2, 3);
            Examples.addIdeas(x, 2, 0, 1);
            for (int map = 0; map < 3; map++) {
                Examples.addLinks(x, map, 10);
            }
            Checks.answerOf(() -> call.on(x));
            checks.due("verdict of a model of other words", 0, () -> x.verdict(1, 0, 1, 0));
            Checks.answerOf(() -> call.on(x));
            checks.due("lacking of a model of other words", 2, () -> x.lacking(1));
            Checks.answerOf(() -> call.on(x));
            dueMatching("a model of other words", x, 1, -1, -1);
            Checks.answerOf(() -> call.on(x));
            duePoints("a model of other words", 0, x, 1);
            Checks.answerOf(() -> call.on(x));
            dueHint("a model of other words", -1, 0, x, 1);
        }
    }

    /** "Takes all ideas and links of a map away.": also for what is asked before and after it */
    private static void marksAfterThoseOfLargerMaps() {
        for (int size = 0; size <= 5; size++) {
            marksAfterFullMaps(size, 5);
            marksAfterFullMaps(5, size);
        }
    }

    private static void marksAfterFullMaps(int pupils, int models) {
        ConceptMarker x = Examples.twins(0, 0, 0, 0, 0);
        for (int link : ALL_LINKS) {
            if (link % 10 < 2) {
                Examples.addLinks(x, 0, link);
                Examples.addLinks(x, 1, link);
            }
        }
        duePoints("full maps of two kinds", 160, x, 1);
        dueHint("full maps of two kinds", -1, 0, x, 1);
        x.clear(0);
        x.clear(1);
        ConceptMarker untouched = new ConceptMarker();
        for (ConceptMarker one : new ConceptMarker[] {x, untouched}) {
            for (int idea = 0; idea < 5; idea++) {
                Examples.addIdeas(one, 0, idea < pupils ? new int[] {0} : new int[0]);
                Examples.addIdeas(one, 1, idea < models ? new int[] {0} : new int[0]);
            }
            Examples.addLinks(one, 0, pupils < 2 ? new int[0] : new int[] {100});
            Examples.addLinks(one, 1, models < 2 ? new int[0] : new int[] {11});
        }
        edges.sameShown("maps of " + pupils + " and " + models + " after full ones", untouched, x);
    }

    // ---- promises 11 and 12

    /** "HELD, if the pupil's map holds that link: 4 points" */
    private static void pointsOfALinkThatIsHeld() {
        for (int link : ALL_LINKS) {
            ConceptMarker x = fiveWith(link);
            Edges.toggle(x, 0, link);
            duePoints(link + " that is had", 4, x, 1);
            Edges.toggle(x, 0, link);
            for (int over = 0; over < 5; over++) {
                if (over != link / 100 && over != link / 10 % 10) {
                    duePointsByChain(link, over, x);
                }
            }
        }
    }

    private static void duePointsByChain(int link, int over, ConceptMarker x) {
        x.link(0, link / 100, over, 1);
        x.link(0, over, link / 10 % 10, 2);
        duePoints(link + " over " + over + " with a chain that is not told", 0, x, 1);
        x.chain(1, 2, link % 10);
        duePoints(link + " over " + over + " that is implied", 4, x, 1);
        x.chain(1, 2, -1);
        duePoints(link + " over " + over + " that is no more implied", 0, x, 1);
        x.link(0, link / 100, over, 1);
        x.link(0, over, link / 10 % 10, 2);
    }

    /** The lowest idea that is neither end of a link. */
    private static int freeIdea(int link) {
        int idea = 0;
        while (idea == link / 100 || idea == link / 10 % 10) {
            idea++;
        }
        return idea;
    }

    /** "WRONG_KIND, if the pupil's map has ... a link of another kind in that direction: 2 points" */
    private static void pointsOfALinkOfAWrongKind() {
        for (int link : ALL_LINKS) {
            ConceptMarker x = fiveWith(link);
            for (int higher = 1; higher < 4; higher++) {
                Edges.toggle(x, 0, ofKind(link, higher));
                duePoints(link + " and the kind " + higher + " above", 2, x, 1);
                Edges.toggle(x, 0, ofKind(link, higher));
                duePoints(link + " without it", 0, x, 1);
            }
            for (int higher = 1; higher < 4; higher++) {
                Edges.toggle(x, 0, ofKind(link, higher));
            }
            duePoints(link + " and all other kinds", 2, x, 1);
        }
    }

    /** "REVERSED, if the pupil's map has ... a link of that kind in the other direction: 1 point" */
    private static void pointsOfALinkThatIsReversed() {
        for (int link : ALL_LINKS) {
            ConceptMarker x = fiveWith(link);
            Edges.toggle(x, 0, back(link));
            duePoints(link + " in the other direction", 1, x, 1);
            for (int higher = 1; higher < 4; higher++) {
                Edges.toggle(x, 0, ofKind(back(link), higher));
            }
            duePoints(link + " and all kinds in the other direction", 1, x, 1);
        }
    }

    /** "otherwise MISSING: 0 points": all links there are but those of these ideas and kinds */
    private static void pointsOfALinkThatIsMissing() {
        for (int link : ALL_LINKS) {
            ConceptMarker x = fiveWith(link);
            for (int other : ALL_LINKS) {
                if (other / 10 != link / 10 && other != back(link)) {
                    Edges.toggle(x, 0, other);
                }
            }
            checks.due("links of the pupil", 75, () -> x.links(0));
            duePoints(link + " and none for it", 0, x, 1);
            checks.due("mark of " + link, 0, () -> x.mark(1));
        }
    }

    /** "otherwise": held before a wrong kind before reversed */
    private static void pointsOfTheFirstThatApplies() {
        for (int link : ALL_LINKS) {
            ConceptMarker x = fiveWith(link);
            Edges.toggle(x, 0, back(link));
            Edges.toggle(x, 0, ofKind(link, 1));
            duePoints(link + " of a wrong kind and reversed", 2, x, 1);
            Edges.toggle(x, 0, link);
            duePoints(link + " held, of a wrong kind and reversed", 4, x, 1);
            Edges.toggle(x, 0, ofKind(link, 1));
            duePoints(link + " held and reversed", 4, x, 1);
        }
    }

    /** "has (not only holds)": of a wrong kind, and in the other direction */
    private static void pointsOfWhatIsOnlyHeld() {
        for (int kind = 0; kind < 4; kind++) {
            ConceptMarker x = Examples.twins(0, 1, 2);
            Examples.addLinks(x, 0, 10, 120);
            Examples.addLinks(x, 1, 20 + kind, 200 + kind);
            for (int implied = 0; implied < 4; implied++) {
                x.chain(0, 0, implied);
                duePoints("kind " + kind + " where " + implied + " is held", implied == kind ? 4 : 0, x, 1);
            }
            Examples.addLinks(x, 0, 20 + (kind + 1) % 4);
            x.chain(0, 0, -1);
            duePoints("kind " + kind + " of which another is had", 2, x, 1);
        }
    }

    /** "a link that the model has (not those that it only holds)" */
    private static void pointsOfWhatTheModelOnlyHolds() {
        ConceptMarker x = Examples.twins(0, 1, 2);
        x.chain(0, 0, 1);
        Examples.addLinks(x, 1, 10, 120);
        Examples.addLinks(x, 0, 21);
        duePoints("a link that the model only holds", 0, x, 1);
        dueHint("a link that the model only holds", 10, 4, x, 1);
        Examples.addLinks(x, 1, 21);
        duePoints("a link that it has, too", 4, x, 1);
    }

    /** "The points of a matching are those of all links of the model." */
    private static void pointsOfAllLinks() {
        ConceptMarker x = Examples.twins(0, 1, 2, 3, 4);
        Examples.addLinks(x, 1, 10, 121, 232, 343, 403, 412);
        Examples.addLinks(x, 0, 10, 122, 322);
        duePoints("one held, one of a wrong kind, one reversed and three missing", 7, x, 1);
        ConceptMarker same = Examples.twins(0, 1);
        Examples.addLinks(same, 1, 10, 11, 12, 13, 100, 101, 102, 103);
        Examples.addLinks(same, 0, 12);
        duePoints("one held, three of a wrong kind, one reversed", 11, same, 1);
        Examples.addLinks(same, 0, 103);
        duePoints("two held, six of a wrong kind", 20, same, 1);
    }

    /** "different ones to different ideas": one link of the model is held once, by the whole fan */
    private static void pointsWithDifferentOnesForDifferentIdeas() {
        for (int middle = 0; middle < 5; middle++) {
            for (int link : ALL_LINKS) {
                ConceptMarker x = Examples.twins(6, 6, 6, 6, 6);
                Edges.toggle(x, 1, link);
                for (int idea = 0; idea < 5; idea++) {
                    if (idea != middle) {
                        x.link(0, middle, idea, link % 10);
                    }
                }
                duePoints(link + " and a fan from " + middle, 4, x, 1);
                for (int idea = 0; idea < 5; idea++) {
                    if (idea != middle) {
                        x.link(0, middle, idea, link % 10);
                        x.link(0, idea, middle, link % 10);
                    }
                }
                duePoints(link + " and a fan to " + middle, 4, x, 1);
            }
        }
        ConceptMarker one = new ConceptMarker();
        Examples.addIdeas(one, 0, 6, 6, 6, 6, 6);
        Examples.addIdeas(one, 1, 6);
        Examples.addLinks(one, 0, Edges.all(ALL_LINKS));
        duePoints("a model of one idea", 0, one, 1);
        checks.due("of which none is lacking", 0, () -> one.lacking(1));
    }

    /** "gives some of the pupil's ideas": those that are given none bring no points */
    private static void pointsOfNoneForTheRest() {
        ConceptMarker x = Examples.twins(6, 6, 6, 6, 6);
        Examples.addLinks(x, 0, 10, 20, 30, 231, 341);
        Examples.addLinks(x, 1, 400, 410, 420, 11, 121);
        duePoints("three from one idea and a path of two, shifted", 16, x, 1);
        dueMatching("three from one idea and a path of two, shifted", x, 1, 4, 0, 1, 2, 3);
        for (int link : ALL_LINKS) {
            ConceptMarker few = new ConceptMarker();
            Examples.addIdeas(few, 0, 6, 6, 6, 6, 6);
            Examples.addIdeas(few, 1, 6, 6);
            Edges.toggle(few, 0, link);
            Examples.addLinks(few, 1, 10 + link % 10);
            int[] due = {-1, -1, -1, -1, -1};
            due[link / 100] = 0;
            due[link / 10 % 10] = 1;
            duePoints(link + " and a model of two ideas", 4, few, 1);
            dueMatching(link + " and a model of two ideas", few, 1, due);
        }
    }

    /** "The best matching is the one with the most points": also the last one that can be tried */
    private static void pointsOfTheBestOfAllMatchings() {
        int[][] orders = {{4, 3, 2, 1, 0}, {0, 1, 2, 3, 4}, {1, 2, 3, 4, 0}, {3, 4, 0, 2, 1}};
        for (int[] order : orders) {
            ConceptMarker x = Examples.twins(9, 9, 9, 9, 9);
            for (int step = 0; step < 4; step++) {
                x.link(0, step, step + 1, step);
                x.link(1, order[step], order[step + 1], step);
            }
            duePoints("a path of four kinds", 16, x, 1);
            dueMatching("a path of four kinds", x, 1, order);
            checks.due("mark of a path", 100, () -> x.mark(1));
            dueHint("a path of four kinds", -1, 0, x, 1);
        }
    }

    // ---- promise 13

    /** "0 if it has no links" */
    private static void markOfNoLinks() {
        for (int model = 1; model < 4; model++) {
            int m = model;
            ConceptMarker x = new ConceptMarker();
            checks.due("mark of an empty model", 0, () -> x.mark(m));
            x.addIdea(m, 0);
            checks.due("mark of a model of one idea", 0, () -> x.mark(m));
            Examples.addIdeas(x, 0, 0, 1);
            x.addIdea(m, 1);
            Examples.addLinks(x, 0, 10);
            checks.due("mark of a model without links", 0, () -> x.mark(m));
            Examples.addLinks(x, m, 10);
            checks.due("mark of a model of one link", 100, () -> x.mark(m));
            x.link(m, 0, 1, 0);
            checks.due("mark of a model without links again", 0, () -> x.mark(m));
        }
    }

    /** "100 times the points ..., divided by 4 times the number of its links, rounded down" */
    private static void markRoundedDown() {
        for (int links = 1; links <= 73; links++) {
            ConceptMarker x = oneOf(links);
            int n = links;
            Examples.addLinks(x, 0, 100);
            checks.due("links of the model", n, () -> x.links(1));
            checks.due("mark of one reversed of " + n, 25 / n, () -> x.mark(1));
            Examples.addLinks(x, 0, 11);
            checks.due("mark of one of a wrong kind of " + n, 50 / n, () -> x.mark(1));
            Examples.addLinks(x, 0, 10);
            checks.due("mark of one held of " + n, 100 / n, () -> x.mark(1));
        }
    }

    /** A model of so many links, 010 alone of them between its ideas 0 and 1; no links of the pupil. */
    private static ConceptMarker oneOf(int links) {
        ConceptMarker x = fiveWith(10);
        int added = 1;
        for (int link : ALL_LINKS) {
            boolean between = link / 10 == 1 || link / 10 == 10;
            if (!between && added < links) {
                Edges.toggle(x, 1, link);
                added++;
            }
        }
        return x;
    }

    /** "rounded down": the greatest mark below 100 */
    private static void markBelow100() {
        ConceptMarker x = Examples.twins(0, 1, 2, 3, 4);
        Examples.addLinks(x, 0, Edges.all(ALL_LINKS));
        Examples.addLinks(x, 1, Edges.all(ALL_LINKS));
        checks.due("the mark of all", 100, () -> x.mark(1));
        x.link(0, 4, 3, 3);
        checks.due("the mark of 318 of 320", 99, () -> x.mark(1));
        x.link(0, 4, 3, 2);
        checks.due("the mark of 316 of 320", 98, () -> x.mark(1));
    }

    /** "the number of its links": those that it has, not those that it holds */
    private static void markByLinksThatTheModelHas() {
        ConceptMarker x = Examples.twins(0, 1, 2);
        x.chain(0, 0, 1);
        Examples.addLinks(x, 1, 10, 120);
        Examples.addLinks(x, 0, 10);
        checks.due("the model holds three", 3, () -> x.held(1));
        checks.due("mark of one of two", 50, () -> x.mark(1));
        Examples.addLinks(x, 0, 120);
        checks.due("mark of both", 100, () -> x.mark(1));
    }

    // ---- promise 14

    /** "the greatest mark of those that have a link, of several the lowest"; "NONE if no model has" */
    private static void bestModelIsTheGreatestAndLowest() {
        int[][] linksFor = {{}, {120}, {10, 120}, {10}};
        for (int levels = 0; levels < 64; levels++) {
            ConceptMarker x = Edges.three();
            Examples.addLinks(x, 0, 10);
            int due = -1;
            int greatest = 0;
            for (int model = 1; model < 4; model++) {
                int level = levels >> 2 * (model - 1) & 3;
                Examples.addLinks(x, model, linksFor[level]);
                if (level > greatest) {
                    greatest = level;
                    due = model;
                }
            }
            int best = due;
            checks.due("best model of the levels " + levels, best, x::bestModel);
        }
    }

    /** "the greatest mark": a mark is rounded down, so more points of more links may be no more */
    private static void bestModelByRoundedMarks() {
        for (int links = 25; links <= 26; links++) {
            ConceptMarker x = oneOf(links);
            Examples.addLinks(x, 0, 100);
            Examples.addIdeas(x, 2, 0, 1, 2, 3, 4);
            Examples.addIdeas(x, 3, 0, 1, 2, 3, 4);
            for (int link : ALL_LINKS) {
                if (x.holds(1, link / 100, link / 10 % 10, link % 10)) {
                    Edges.toggle(x, 3, link);
                }
            }
            Examples.addLinks(x, 2, 340);
            x.clear(1);
            int best = links == 25 ? 3 : 2;
            checks.due("one point of " + links + " links beside none", best, x::bestModel);
        }
    }

    /** "Returns the model; NONE if no model has a link." */
    private static void bestModelOfNewAndClearedMaps() {
        ConceptMarker x = new ConceptMarker();
        checks.due("bestModel of empty maps", -1, x::bestModel);
        for (int map = 0; map < 4; map++) {
            Examples.addIdeas(x, map, 0, 1, 2);
        }
        checks.due("bestModel of maps without links", -1, x::bestModel);
        Examples.addLinks(x, 0, 10, 120, 200);
        checks.due("bestModel where only the pupil's map has links", -1, x::bestModel);
        for (int model = 3; model >= 1; model--) {
            int m = model;
            x.link(m, 0, 1, 0);
            checks.due("bestModel with a link in " + m, m, x::bestModel);
        }
        for (int model = 1; model <= 3; model++) {
            int next = model == 3 ? -1 : model + 1;
            x.clear(model);
            checks.due("bestModel without " + model, next, x::bestModel);
        }
    }

    // ---- promise 15

    /** "idea: an idea of the pupil's map"; "if there is no such ... idea" */
    private static void matchOfIdeasOfThePupil() {
        for (int model = 1; model < 4; model++) {
            int m = model;
            edges.range("matchOf in model " + m + " of", 0, 2, Edges.BOUNDS, (x, idea) -> x.matchOf(m, idea));
        }
    }

    /** "an idea of the pupil's map": not one that only the model has */
    private static void matchOfIdeasOfEachSize() {
        ConceptMarker x = new ConceptMarker();
        Examples.addIdeas(x, 3, 0, 1, 2, 3, 4);
        for (int size = 0; size <= 5; size++) {
            int next = size;
            for (int model = 1; model < 4; model++) {
                int m = model;
                checks.throwsOutOfBounds("matchOf idea " + next + " of " + next, () -> x.matchOf(m, next));
                for (int idea = 0; idea < next; idea++) {
                    int i = idea;
                    checks.due("matchOf idea " + i + " of " + next, m == 3 ? i : -1, () -> x.matchOf(m, i));
                }
            }
            if (size < 5) {
                x.addIdea(0, size);
            }
        }
        x.clear(0);
        checks.throwsOutOfBounds("matchOf idea 0 after clear", () -> x.matchOf(3, 0));
    }

    /** "if there is no such model or idea": or neither */
    private static void matchOfBothArgumentsWrong() {
        ConceptMarker x = Edges.three();
        for (int model : TRIED_MODELS) {
            for (int idea : TRIED) {
                boolean wrong = model < 1 || model > 3 || Edges.isOutside(idea, 3);
                checks.due("matchOf(" + model + ", " + idea + ")", wrong ? Edges.BOUNDS : (Object) idea,
                        () -> x.matchOf(model, idea));
            }
        }
    }

    /** "NONE if it is given none" */
    private static void matchOfNone() {
        ConceptMarker x = new ConceptMarker();
        Examples.addIdeas(x, 0, 0, 1, 2, 3, 4);
        Examples.addIdeas(x, 1, 5, 6, 7, 31, 8);
        Examples.addIdeas(x, 2, 4);
        dueMatching("a model of other words", x, 1, -1, -1, -1, -1, -1);
        dueMatching("a model of one idea", x, 2, -1, -1, -1, -1, 0);
        dueMatching("an empty model", x, 3, -1, -1, -1, -1, -1);
        x.synonyms(31, 0);
        dueMatching("a synonym", x, 1, 3, -1, -1, -1, -1);
    }

    /** "the idea of the model with the lowest number, where none comes last" */
    private static void matchOfTheLowestAndNoneLast() {
        for (int size = 0; size <= 5; size++) {
            ConceptMarker x = new ConceptMarker();
            Examples.addIdeas(x, 0, 2, 2, 2, 2, 2);
            int[] due = {-1, -1, -1, -1, -1};
            for (int idea = 0; idea < size; idea++) {
                x.addIdea(2, 2);
                due[idea] = idea;
            }
            dueMatching("a model of " + size + " alike", x, 2, due);
            Examples.addLinks(x, 0, 430);
            dueMatching("a link of the pupil that has no points", x, 2, due);
        }
    }

    /** "gives the pupil's idea 0 ... the lowest number ...; ... for the idea 1, and so on" */
    private static void matchOfTheLowestForEachIdea() {
        for (int idea = 0; idea < 5; idea++) {
            for (int pair = 0; pair < 25; pair++) {
                int low = pair / 5;
                int high = pair % 5;
                if (low < high) {
                    lowestOfTwo(idea, low, high);
                }
            }
        }
    }

    /** The pupil's idea is alike to two of the model; of the others only one is alike to another. */
    private static void lowestOfTwo(int idea, int low, int high) {
        ConceptMarker x = new ConceptMarker();
        int other = idea == 4 ? 3 : 4;
        int place = -1;
        for (int at = 0; at < 5; at++) {
            boolean alike = at == low || at == high;
            x.addIdea(0, at == idea ? 31 : at == other ? 0 : 1);
            x.addIdea(1, alike ? 31 : place == -1 ? 0 : 2);
            place = !alike && place == -1 ? at : place;
        }
        String what = "idea " + idea + " of " + low + " and " + high;
        int free = place;
        int[] due = {-1, -1, -1, -1, -1};
        due[idea] = low;
        due[other] = free;
        dueMatching(what, x, 1, due);
        x.link(0, idea, other, 3);
        dueMatching(what + " with a link", x, 1, due);
        x.link(1, high, free, 3);
        due[idea] = high;
        dueMatching(what + " with points for the higher one", x, 1, due);
        x.link(1, low, free, 3);
        due[idea] = low;
        dueMatching(what + " with the same points", x, 1, due);
    }

    /** "The best matching is the one with the most points": 1 is enough, and none may be best */
    private static void matchOfTheMostPointsBeforeTheLowest() {
        ConceptMarker x = Examples.twins(1, 1, 1, 1, 1);
        Examples.addLinks(x, 1, 432);
        dueMatching("without links of the pupil", x, 1, 0, 1, 2, 3, 4);
        Examples.addLinks(x, 0, 12);
        dueMatching("with its link", x, 1, 4, 3, 0, 1, 2);
        x.link(0, 0, 1, 2);
        Examples.addLinks(x, 0, 102);
        dueMatching("with the link turned", x, 1, 3, 4, 0, 1, 2);
        ConceptMarker small = new ConceptMarker();
        Examples.addIdeas(small, 0, 1, 1, 1, 1, 1);
        Examples.addIdeas(small, 1, 1, 1);
        Examples.addLinks(small, 1, 12);
        Examples.addLinks(small, 0, 432);
        dueMatching("none for the first three", small, 1, -1, -1, -1, 1, 0);
        small.link(0, 4, 3, 2);
        Examples.addLinks(small, 0, 431);
        dueMatching("none for two points", small, 1, -1, -1, -1, 1, 0);
        ConceptMarker way = Examples.twins(1, 1, 1);
        Examples.addLinks(way, 1, 10, 200);
        Examples.addLinks(way, 0, 10);
        dueMatching("of two best ones for an idea", way, 1, 0, 1, 2);
        x.clear(0);
        Examples.addIdeas(x, 0, 1);
        dueMatching("one idea alone", x, 1, 0);
    }

    /** "of several of these the one that does so for the idea 1": the idea 0 goes before */
    private static void matchOfIdea0BeforeIdea1() {
        ConceptMarker x = Examples.twins(1, 1, 1, 1);
        Examples.addLinks(x, 1, 30, 230, 120);
        Examples.addLinks(x, 0, 100);
        dueMatching("the lowest to, whatever it is for the idea 1", x, 1, 2, 1, 0, 3);
        x.link(0, 1, 0, 0);
        Examples.addLinks(x, 0, 10);
        dueMatching("the lowest from", x, 1, 0, 3, 1, 2);
        ConceptMarker none = new ConceptMarker();
        Examples.addIdeas(none, 0, 1, 1, 1);
        Examples.addIdeas(none, 1, 1, 1);
        Examples.addLinks(none, 1, 100);
        Examples.addLinks(none, 0, 120, 200);
        dueMatching("an idea before none for the idea 0", none, 1, 0, -1, 1);
        x.clear(0);
        Examples.addIdeas(x, 0, 1, 1, 1);
        Examples.addLinks(x, 0, 120, 20);
        dueMatching("the idea 0 gets the lower of two that may change places", x, 1, 0, 2, 3);
    }

    // ---- promise 16

    /** "from: an idea of the model"; "to: another one"; "if there is no such ... idea" */
    private static void verdictFromAndToIdeasOfTheModel() {
        edges.refusedOutside("verdict from", 0, 3, Edges.BOUNDS, (x, from) -> x.verdict(1, from, 0, 0));
        edges.refusedOutside("verdict to", 0, 3, Edges.BOUNDS, (x, to) -> x.verdict(1, 0, to, 0));
        for (int model = 1; model < 4; model++) {
            ConceptMarker x = new ConceptMarker();
            Examples.addIdeas(x, 0, 0, 1);
            int m = model;
            for (int size = 0; size <= 5; size++) {
                int next = size;
                int last = size - 1;
                checks.throwsOutOfBounds("verdict from " + next, () -> x.verdict(m, next, 0, 0));
                checks.throwsOutOfBounds("verdict to " + next, () -> x.verdict(m, 0, next, 0));
                checks.throwsOutOfBounds("verdict of both " + next, () -> x.verdict(m, next, next, 0));
                if (size >= 2) {
                    Examples.addLinks(x, m, 100 * last, 10 * last + 3);
                    checks.due("verdict from " + last, 0, () -> x.verdict(m, last, 0, 0));
                    checks.due("verdict to " + last, 0, () -> x.verdict(m, 0, last, 3));
                }
                if (size < 5) {
                    x.addIdea(m, size);
                }
            }
        }
        ConceptMarker pupil = new ConceptMarker();
        Examples.addIdeas(pupil, 0, 0, 1, 2, 3, 4);
        Examples.addIdeas(pupil, 1, 0, 1);
        checks.throwsOutOfBounds("an idea that only the pupil's map has", () -> pupil.verdict(1, 0, 2, 0));
    }

    /** "kind: 0 to 3"; "or there is no such kind" */
    private static void verdictOfKinds0To3() {
        edges.refusedOutside("verdict of kind", 0, 3, Edges.ARGUMENT, (x, kind) -> x.verdict(1, 0, 1, kind));
        ConceptMarker x = Edges.three();
        Examples.addLinks(x, 2, 10, 11, 12, 13);
        for (int kind = 0; kind < 4; kind++) {
            int k = kind;
            checks.due("verdict of kind " + k, 0, () -> x.verdict(2, 0, 1, k));
        }
        for (int kind : Edges.outside(0, 3)) {
            checks.throwsArgument("verdict of kind " + kind + " of all", () -> x.verdict(2, 0, 1, kind));
        }
    }

    /** "if both ideas are the same" */
    private static void verdictRefusesTheSameIdea() {
        for (int model = 1; model < 4; model++) {
            ConceptMarker x = new ConceptMarker();
            Examples.addIdeas(x, model, 0, 1, 2, 3, 4);
            Examples.addLinks(x, model, Edges.all(ALL_LINKS));
            int m = model;
            for (int idea = 0; idea < 5; idea++) {
                int i = idea;
                checks.throwsArgument("verdict of " + i + " and itself", () -> x.verdict(m, i, i, i % 4));
            }
        }
        edges.refused("a verdict of 0 and itself", Edges.ARGUMENT, x -> x.verdict(1, 0, 0, 0));
    }

    /** "if the model does not have the link" */
    private static void verdictRefusesALinkThatIsNotThere() {
        for (int link : ALL_LINKS) {
            ConceptMarker x = Examples.twins(0, 1, 2, 3, 4);
            Examples.addLinks(x, 0, link);
            for (int other : ALL_LINKS) {
                if (other != link) {
                    Edges.toggle(x, 1, other);
                }
            }
            checks.throwsState("verdict of " + link + ", not there", () -> verdict(x, 1, link));
            checks.due(link + " is not there then", 79, () -> x.links(1));
            Edges.toggle(x, 1, link);
            checks.due("verdict of " + link + ", there", 3, () -> verdict(x, 1, link));
            Edges.toggle(x, 1, link);
            checks.throwsState("verdict of " + link + ", gone", () -> verdict(x, 1, link));
        }
        ConceptMarker held = Examples.twins(0, 1, 2);
        held.chain(0, 0, 0);
        Examples.addLinks(held, 0, 10, 120, 20);
        Examples.addLinks(held, 1, 10, 120);
        checks.due("the model holds the link", true, () -> held.holds(1, 0, 2, 0));
        checks.throwsState("verdict of a link only held", () -> held.verdict(1, 0, 2, 0));
        edges.refused("a verdict of a link not there", Edges.STATE, x -> x.verdict(1, 1, 0, 3));
    }

    /** "If several exceptions of a throws clause apply, the one that is listed first is thrown." */
    private static void verdictRefusesInOrder() {
        for (int model : TRIED_MODELS) {
            ConceptMarker x = Edges.three();
            for (int map = 1; map < 4; map++) {
                Examples.addLinks(x, map, 23);
            }
            for (int given = 0; given < 216; given++) {
                int from = TRIED[given / 36];
                int to = TRIED[given / 6 % 6];
                int kind = given % 6 == 3 ? 4 : given % 6 == 4 ? 3 : TRIED[given % 6];
                checks.due("verdict(" + model + ", " + from + ", " + to + ", " + kind + ")",
                        dueOfVerdict(model, from, to, kind), () -> x.verdict(model, from, to, kind));
            }
        }
    }

    /** What is due where each model has 3 ideas and one link 023, which the pupil's map has not. */
    private static Object dueOfVerdict(int model, int from, int to, int kind) {
        if (model < 1 || model > 3 || Edges.isOutside(from, 3) || Edges.isOutside(to, 3)) {
            return Edges.BOUNDS;
        }
        if (from == to || Edges.isOutside(kind, 4)) {
            return Edges.ARGUMENT;
        }
        return from == 0 && to == 2 && kind == 3 ? 0 : (Object) Edges.STATE;
    }

    /** "MISSING, if one of both ideas of the model is given to no idea of the pupil" */
    private static void verdictOfIdeasGivenToNone() {
        for (int given = 0; given < 32; given++) {
            ConceptMarker x = new ConceptMarker();
            for (int idea = 0; idea < 5; idea++) {
                x.addIdea(0, (given >> idea & 1) == 1 ? idea : 31);
                x.addIdea(1, idea);
            }
            Examples.addLinks(x, 0, Edges.all(ALL_LINKS));
            Examples.addLinks(x, 1, Edges.all(ALL_LINKS));
            for (int link : ALL_LINKS) {
                boolean both = (given >> link / 100 & given >> link / 10 % 10 & 1) == 1;
                checks.due("verdict of " + link + " where " + given + " are given", both ? 3 : 0,
                        () -> verdict(x, 1, link));
            }
            int pairs = Integer.bitCount(given) * (Integer.bitCount(given) - 1);
            duePoints("where " + given + " are given", 16 * pairs, x, 1);
        }
    }

    /** "HELD, if the pupil's map holds that link" */
    private static void verdictOfALinkThatIsHeld() {
        for (int link : ALL_LINKS) {
            ConceptMarker x = fiveWith(link);
            Edges.toggle(x, 0, link);
            checks.due("verdict of " + link + " that is had", 3, () -> verdict(x, 1, link));
            Edges.toggle(x, 0, back(link));
            Edges.toggle(x, 0, ofKind(link, 3));
            checks.due("verdict of " + link + " with others", 3, () -> verdict(x, 1, link));
            Edges.toggle(x, 0, link);
            x.link(0, link / 100, freeIdea(link), 1);
            x.link(0, freeIdea(link), link / 10 % 10, 1);
            checks.due("verdict of " + link + " before the chain", 2, () -> verdict(x, 1, link));
            x.chain(1, 1, link % 10);
            checks.due("verdict of " + link + " that is implied", 3, () -> verdict(x, 1, link));
        }
    }

    /** "otherwise WRONG_KIND", "otherwise REVERSED", "otherwise MISSING", "has (not only holds)" */
    private static void verdictOfALinkThatIsNotHeld() {
        for (int link : ALL_LINKS) {
            ConceptMarker x = fiveWith(link);
            checks.due("verdict of " + link + " without any", 0, () -> verdict(x, 1, link));
            Edges.toggle(x, 0, ofKind(back(link), 1));
            checks.due("verdict of " + link + " turned and of another kind", 0, () -> verdict(x, 1, link));
            Edges.toggle(x, 0, back(link));
            checks.due("verdict of " + link + " turned", 1, () -> verdict(x, 1, link));
            Edges.toggle(x, 0, ofKind(link, 3));
            checks.due("verdict of " + link + " turned and another kind", 2, () -> verdict(x, 1, link));
            Edges.toggle(x, 0, back(link));
            checks.due("verdict of " + link + " of another kind", 2, () -> verdict(x, 1, link));
            Edges.toggle(x, 0, ofKind(link, 3));
            x.link(0, link / 100, freeIdea(link), 1);
            x.link(0, freeIdea(link), link / 10 % 10, 1);
            x.chain(1, 1, (link + 1) % 10 % 4);
            checks.due("verdict of " + link + " if another is held", 0, () -> verdict(x, 1, link));
        }
        ConceptMarker turned = Examples.twins(0, 1, 2);
        turned.chain(0, 0, 1);
        Examples.addLinks(turned, 0, 10, 120);
        Examples.addLinks(turned, 1, 201);
        checks.due("verdict of one that is turned and only held", 0, () -> turned.verdict(1, 2, 0, 1));
        Examples.addLinks(turned, 0, 21);
        checks.due("verdict of one that is turned and had", 1, () -> turned.verdict(1, 2, 0, 1));
    }

    // ---- promise 17

    /** "how many ideas of a model the best matching gives to no idea of the pupil": 0 to 5 */
    private static void lackingOfEachSize() {
        for (int sizes = 0; sizes < 36; sizes++) {
            ConceptMarker x = new ConceptMarker();
            int pupils = sizes / 6;
            int models = sizes % 6;
            for (int idea = 0; idea < 5; idea++) {
                Examples.addIdeas(x, 0, idea < pupils ? new int[] {31} : new int[0]);
                Examples.addIdeas(x, 3, idea < models ? new int[] {31} : new int[0]);
            }
            String what = "lacking of " + models + " for " + pupils;
            checks.due(what, Math.max(0, models - pupils), () -> x.lacking(3));
            checks.due(what + " of another model", 0, () -> x.lacking(2));
        }
    }

    /** "each that is alike": ideas of other words are lacking all */
    private static void lackingOfOtherWords() {
        ConceptMarker x = new ConceptMarker();
        Examples.addIdeas(x, 0, 0, 1, 2, 3, 4);
        for (int size = 1; size <= 5; size++) {
            int due = size;
            x.addIdea(1, 32 - size);
            checks.due("lacking of " + due + " of other words", due, () -> x.lacking(1));
        }
        for (int size = 1; size <= 5; size++) {
            int due = 5 - size;
            x.synonyms(size - 1, 32 - size);
            checks.due("lacking with " + size + " synonyms", due, () -> x.lacking(1));
        }
    }

    // ---- promises 18 and 19

    /** "100 times the idea from, 10 times the idea to, and the kind, added": from 010 to 433 */
    private static void hintIsTheOnlyLink() {
        for (int link : ALL_LINKS) {
            ConceptMarker x = fiveWith(link);
            dueHint("a model of " + link, link, 4, x, 1);
            checks.due("links of the pupil after it", 0, () -> x.links(0));
            checks.due("points after it", 0, () -> x.points(1));
            Edges.toggle(x, 0, link);
            dueHint("a model of " + link + ", which is had", -1, 0, x, 1);
            checks.due("points with it", 4, () -> x.points(1));
        }
    }

    /** "the link that the pupil's map does not have": in the numbers of its ideas */
    private static void hintInThePupilsNumbers() {
        for (int link : ALL_LINKS) {
            ConceptMarker x = new ConceptMarker();
            Examples.addIdeas(x, 0, 4, 3, 2, 1, 0);
            Examples.addIdeas(x, 2, 0, 1, 2, 3, 4);
            Edges.toggle(x, 2, link);
            dueHint("the other way round, " + link, 440 - link / 10 * 10 + link % 10, 4, x, 2);
        }
    }

    /** "the idea from"; "the idea to": any two of the pupil's, also where the model has only two */
    private static void hintFromAndToAnyOfThePupils() {
        for (int link : ALL_LINKS) {
            ConceptMarker x = new ConceptMarker();
            Examples.addIdeas(x, 0, 0, 1, 2, 3, 4);
            Examples.addIdeas(x, 3, link / 100, link / 10 % 10);
            Examples.addLinks(x, 3, 10 + link % 10);
            dueHint("a model of two ideas, " + link, link, 4, x, 3);
            ConceptMarker small = new ConceptMarker();
            Examples.addIdeas(small, 0, link / 100, link / 10 % 10);
            Examples.addIdeas(small, 3, 0, 1, 2, 3, 4);
            Edges.toggle(small, 3, link);
            dueHint("a pupil's map of two ideas, " + link, 10 + link % 10, 4, small, 3);
        }
    }

    /** "of several that of the lowest idea from, then of the lowest idea to, then of the lowest kind" */
    private static void hintIsTheLowestOfTwo() {
        for (int low : ALL_LINKS) {
            for (int high : ALL_LINKS) {
                if (low < high) {
                    ConceptMarker x = fiveWith(low);
                    Edges.toggle(x, 1, high);
                    int gain = high == back(low) ? 5 : high / 10 == low / 10 ? 6 : 4;
                    dueHint("of " + low + " and " + high, low, gain, x, 1);
                }
            }
        }
    }

    /** "make points(model) greatest": before the lowest */
    private static void hintIsTheGreatest() {
        for (int kinds = 1; kinds < 15; kinds++) {
            ConceptMarker x = fiveWith(10);
            for (int kind = 0; kind < 4; kind++) {
                if ((kinds >> kind & 1) == 1) {
                    Edges.toggle(x, 1, 430 + kind);
                }
            }
            int more = Integer.bitCount(kinds) - 1;
            int best = more == 0 ? 10 : 430 + Integer.numberOfTrailingZeros(kinds);
            dueHint("010 and the kinds " + kinds + " of 43", best, 4 + 2 * more, x, 1);
        }
        ConceptMarker turned = fiveWith(10);
        Examples.addLinks(turned, 1, 12, 340, 341, 430, 431);
        dueHint("two of 01, or two of 34 and one of 43 turned", 340, 7, turned, 1);
        turned.link(0, 0, 1, 3);
        dueHint("010 of a wrong kind already", 340, 7, turned, 1);
        ConceptMarker free = Examples.twins(7, 7, 7, 7, 7);
        Examples.addLinks(free, 1, 431);
        dueHint("any idea may be any", 11, 4, free, 1);
    }

    /** "the link that the pupil's map does not have": the only one of 80 */
    private static void hintOfAMapThatLacksOne() {
        for (int link : ALL_LINKS) {
            ConceptMarker x = Examples.twins(0, 1, 2, 3, 4);
            Examples.addLinks(x, 0, Edges.all(ALL_LINKS));
            Examples.addLinks(x, 1, Edges.all(ALL_LINKS));
            Edges.toggle(x, 0, link);
            duePoints("all but " + link, 318, x, 1);
            dueHint("all but " + link, link, 2, x, 1);
            checks.due("mark of all but " + link, 99, () -> x.mark(1));
            checks.due("verdict of " + link, 2, () -> verdict(x, 1, link));
        }
    }

    /** "NONE if none would make it greater"; "0 if there is none" */
    private static void hintIfNoneWouldMakeItGreater() {
        ConceptMarker one = new ConceptMarker();
        Examples.addIdeas(one, 0, 0);
        Examples.addIdeas(one, 1, 0, 1, 0);
        Examples.addLinks(one, 1, 10, 20);
        dueHint("a pupil's map of one idea", -1, 0, one, 1);
        one.addIdea(0, 2);
        dueHint("only one that is alike", -1, 0, one, 1);
        one.synonyms(2, 1);
        dueHint("two that are alike", 10, 4, one, 1);
        ConceptMarker none = Examples.twins(0, 1, 2, 3, 4);
        dueHint("a model without links", -1, 0, none, 1);
        Examples.addLinks(none, 0, 10, 433);
        dueHint("a model without links and a pupil's map with some", -1, 0, none, 1);
        Examples.addLinks(none, 1, 433);
        dueHint("all are held", -1, 0, none, 1);
        ConceptMarker implied = Examples.twins(0, 1, 2);
        implied.chain(0, 0, 1);
        Examples.addLinks(implied, 0, 10, 120);
        Examples.addLinks(implied, 1, 21);
        dueHint("the only link is held already", -1, 0, implied, 1);
    }

    /** "the link that the pupil's map does not have": a full map has all */
    private static void hintOfAFullPupilsMap() {
        ConceptMarker x = new ConceptMarker();
        Examples.addIdeas(x, 0, 0, 1, 2, 3, 4);
        Examples.addIdeas(x, 3, 0, 1, 9, 4);
        Examples.addLinks(x, 0, Edges.all(ALL_LINKS));
        Examples.addLinks(x, 3, 10, 120, 321, 302);
        duePoints("a full map, and an idea that is lacking", 8, x, 3);
        dueHint("a full map, and an idea that is lacking", -1, 0, x, 3);
        checks.due("mark of a full map, and an idea that is lacking", 50, () -> x.mark(3));
    }

    /** "make points(model) greatest if it was added": with all that it implies */
    private static void hintThatImpliesTheRest() {
        ConceptMarker x = Examples.twins(0, 1, 2, 3, 4);
        x.chain(0, 0, 0);
        for (int link : ALL_LINKS) {
            if (link % 10 == 0) {
                Edges.toggle(x, 1, link);
            }
        }
        Examples.addLinks(x, 0, 10, 120, 230, 340);
        duePoints("a path, and its links turned", 44, x, 1);
        dueHint("the link that closes the ring", 400, 36, x, 1);
        Examples.addLinks(x, 0, 400);
        duePoints("the ring", 80, x, 1);
        dueHint("the ring", -1, 0, x, 1);
        x.link(1, 4, 0, 0);
        x.link(0, 4, 0, 0);
        dueHint("even if the model does not have it", 400, 32, x, 1);
    }

    /** "how many points": 1, by another matching than the best one of before */
    private static void gainOfOnePoint() {
        ConceptMarker x = new ConceptMarker();
        Examples.addIdeas(x, 0, 0, 1, 1);
        Examples.addIdeas(x, 1, 1, 1, 1, 0);
        Examples.addLinks(x, 0, 100);
        Examples.addLinks(x, 1, 10, 100, 230);
        duePoints("one is held", 4, x, 1);
        dueMatching("one is held", x, 1, 3, 2, 0);
        dueHint("one held and one reversed are 1 more", 120, 1, x, 1);
        Examples.addLinks(x, 0, 120);
        duePoints("one held and one reversed", 5, x, 1);
        dueMatching("one held and one reversed", x, 1, 3, 0, 1);
    }

    /** "how many points the link of hint() would add": for what was missing, reversed or wrong */
    private static void gainOfEachVerdict() {
        for (int link : ALL_LINKS) {
            ConceptMarker x = fiveWith(link);
            Edges.toggle(x, 0, ofKind(back(link), 1));
            dueHint(link + " is missing", link, 4, x, 1);
            Edges.toggle(x, 0, back(link));
            dueHint(link + " is reversed", link, 3, x, 1);
            Edges.toggle(x, 0, ofKind(link, 2));
            dueHint(link + " is of a wrong kind", link, 2, x, 1);
            Edges.toggle(x, 0, link);
            dueHint(link + " is held", -1, 0, x, 1);
        }
    }

    // ---- calls of an object

    /** "An object is used for at most 512 calls after it has been made": the last one is promised */
    private static void theLastOf512Calls() {
        ConceptMarker x = new ConceptMarker();
        x.addIdea(0, 0);
        x.addIdea(0, 1);
        for (int call = 2; call < 511; call++) {
            boolean due = call % 2 == 0;
            checks.due("call " + call, due, () -> x.link(0, 1, 0, 3));
        }
        checks.due("call 511", 1, () -> x.links(0));
        ConceptMarker full = Edges.full(0);
        for (int call = 0; call < 100; call++) {
            checks.throwsState("a refused call", () -> full.addIdea(0, 0));
        }
        edges.sameShown("after 100 refused calls", Edges.full(0), full);
    }

    /** The same where each call is one of those that try most. */
    private static void theDearestOf512Calls() {
        ConceptMarker x = Examples.twins(3, 3, 3, 3, 3);
        x.chain(1, 1, 1);
        Examples.addLinks(x, 1, 11, 121, 231, 341, 400);
        Examples.addLinks(x, 0, 11, 121, 231);
        for (int round = 0; round < 120; round++) {
            duePoints("round " + round, 12, x, 1);
            dueHint("round " + round, 340, 4, x, 1);
        }
    }
}
