/** Promises 11 to 19: the best matching of the pupil's map to a model, and what follows from it. */
public final class MarksTest {
    private static final Checks checks = new Checks();

    private MarksTest() {
    }

    public static void main(String[] args) {
        promise11Points();
        promise11PointsByChains();
        promise12PointsByTrying();
        promise13Mark();
        promise14BestModel();
        promise15MatchOf();
        promise15MatchOfOfSeveral();
        promise16Verdict();
        promise16VerdictOfIdeasThatAreLacking();
        promise16VerdictRefusals();
        promise17Lacking();
        promise18Hint();
        promise18HintOfSeveral();
        promise18HintByChains();
        promise19Gain();
        marksOfNoModel();
        marksChangeNothing();
        checks.end("MarksTest");
    }

    private static void promise11Points() {
        ConceptMarker x = Examples.twins(0, 1, 2);
        checks.due("points without links", 0, () -> x.points(1));
        Examples.addLinks(x, 1, 10, 123);
        checks.due("points without links of the pupil", 0, () -> x.points(1));
        Examples.addLinks(x, 0, 100);
        checks.due("points of a reversed link", 1, () -> x.points(1));
        Examples.addLinks(x, 0, 12);
        checks.due("points of a wrong kind, though it is reversed too", 2, () -> x.points(1));
        Examples.addLinks(x, 0, 10);
        checks.due("points of a link that is held", 4, () -> x.points(1));
        Examples.addLinks(x, 0, 123);
        checks.due("points of both", 8, () -> x.points(1));
        Examples.addLinks(x, 0, 20, 21, 203);
        checks.due("more links of the pupil cost nothing", 8, () -> x.points(1));
        ConceptMarker y = Examples.twins(0, 1);
        Examples.addLinks(y, 1, 10, 11, 12, 13);
        Examples.addLinks(y, 0, 12);
        checks.due("one link is of another kind than several", 10, () -> y.points(1));
        y.link(0, 0, 1, 2);
        Examples.addLinks(y, 0, 102);
        checks.due("reversed of its kind only", 1, () -> y.points(1));
        ConceptMarker unlike = new ConceptMarker();
        Examples.addIdeas(unlike, 0, 0, 1);
        Examples.addIdeas(unlike, 1, 0, 2);
        Examples.addLinks(unlike, 0, 10);
        Examples.addLinks(unlike, 1, 10);
        checks.due("an idea of another word is not matched", 0, () -> unlike.points(1));
        unlike.synonyms(2, 1);
        checks.due("an idea of a synonym is", 4, () -> unlike.points(1));
        checks.due("other models", 0, () -> unlike.points(2) + unlike.points(3));
    }

    private static void promise11PointsByChains() {
        ConceptMarker x = Examples.twins(0, 1, 2);
        x.chain(0, 0, 1);
        Examples.addLinks(x, 1, 10, 120);
        Examples.addLinks(x, 0, 21);
        checks.due("what a model only holds is worth nothing", 0, () -> x.points(1));
        x.clear(1);
        Examples.addIdeas(x, 1, 0, 1, 2);
        Examples.addLinks(x, 1, 21);
        x.link(0, 0, 2, 1);
        Examples.addLinks(x, 0, 10, 120);
        checks.due("what the pupil's map only holds is worth 4", 4, () -> x.points(1));
        x.chain(0, 0, 2);
        checks.due("a wrong kind that it only holds is worth nothing", 0, () -> x.points(1));
        x.chain(0, 0, 1);
        x.clear(1);
        Examples.addIdeas(x, 1, 0, 1, 2);
        Examples.addLinks(x, 1, 201);
        checks.due("a reversed link that it only holds is worth nothing", 0, () -> x.points(1));
        Examples.addLinks(x, 0, 21);
        checks.due("a reversed link that it has and would hold is worth 1", 1, () -> x.points(1));
    }

    private static void promise12PointsByTrying() {
        ConceptMarker x = Examples.twins(9, 9, 9, 9, 9);
        Examples.addLinks(x, 1, 10, 121, 232, 343, 400);
        Examples.addLinks(x, 0, 20, 241, 412, 133, 300);
        checks.due("points of a turned ring", 20, () -> x.points(1));
        checks.due("the same by trying", 20, () -> x.pointsByTrying(1));
        x.link(0, 4, 1, 2);
        checks.due("points with a link less", 16, () -> x.points(1));
        checks.due("the same by trying", 16, () -> x.pointsByTrying(1));
        ConceptMarker few = new ConceptMarker();
        Examples.addIdeas(few, 0, 5, 5, 6);
        Examples.addIdeas(few, 2, 6, 5);
        Examples.addLinks(few, 0, 120);
        Examples.addLinks(few, 2, 100);
        checks.due("an idea left out for a later one, by trying", 4, () -> few.pointsByTrying(2));
        checks.due("of a model without ideas, by trying", 0, () -> few.pointsByTrying(1));
        ConceptMarker fan = Examples.twins(5, 5, 5);
        Examples.addLinks(fan, 1, 10);
        Examples.addLinks(fan, 0, 10, 20);
        checks.due("an idea is given to one alone, by trying", 4, () -> fan.pointsByTrying(1));
        ConceptMarker unlike = new ConceptMarker();
        Examples.addIdeas(unlike, 0, 5, 6);
        Examples.addIdeas(unlike, 1, 5, 7);
        Examples.addLinks(unlike, 0, 10);
        Examples.addLinks(unlike, 1, 10);
        Examples.addIdeas(unlike, 2, 5, 6);
        Examples.addLinks(unlike, 2, 10);
        checks.due("a model of the same words, by trying", 4, () -> unlike.pointsByTrying(2));
        checks.due("only ideas that are alike, by trying", 0, () -> unlike.pointsByTrying(1));
        ConceptMarker none = new ConceptMarker();
        Examples.addIdeas(none, 3, 5, 6);
        Examples.addLinks(none, 3, 10);
        checks.due("of a pupil without ideas, by trying", 0, () -> none.pointsByTrying(3));
    }

    private static void promise13Mark() {
        ConceptMarker x = Examples.twins(0, 1, 2);
        checks.due("mark of a model without links", 0, () -> x.mark(1));
        Examples.addLinks(x, 1, 10, 120, 20);
        checks.due("mark of nothing", 0, () -> x.mark(1));
        Examples.addLinks(x, 0, 100);
        checks.due("100 / 12 rounded down", 8, () -> x.mark(1));
        Examples.addLinks(x, 0, 10);
        checks.due("400 / 12 rounded down", 33, () -> x.mark(1));
        Examples.addLinks(x, 0, 120);
        checks.due("800 / 12 rounded down", 66, () -> x.mark(1));
        x.chain(0, 0, 0);
        checks.due("all are held", 100, () -> x.mark(1));
        x.clear(0);
        checks.due("mark without a pupil's map", 0, () -> x.mark(1));
    }

    private static void promise14BestModel() {
        ConceptMarker x = new ConceptMarker();
        for (int map = 0; map < 4; map++) {
            Examples.addIdeas(x, map, 0, 1, 2);
        }
        checks.due("no model has a link", -1, x::bestModel);
        Examples.addLinks(x, 0, 10);
        checks.due("the pupil's map is no model", -1, x::bestModel);
        Examples.addLinks(x, 3, 120);
        checks.due("a mark of 0, but the only link", 3, x::bestModel);
        Examples.addLinks(x, 2, 121);
        checks.due("of several with the mark 0 the lowest", 2, x::bestModel);
        Examples.addLinks(x, 3, 10);
        checks.due("the greatest mark", 3, x::bestModel);
        Examples.addLinks(x, 1, 10, 120, 20);
        checks.due("the greatest mark, not the most points", 3, x::bestModel);
        Examples.addLinks(x, 2, 13);
        x.link(2, 1, 2, 1);
        checks.due("50 both: the lowest", 2, x::bestModel);
        x.clear(2);
        x.clear(3);
        checks.due("the only one left", 1, x::bestModel);
        x.clear(1);
        checks.due("none is left", -1, x::bestModel);
    }

    private static void promise15MatchOf() {
        ConceptMarker x = new ConceptMarker();
        Examples.addIdeas(x, 0, 4, 5, 6);
        Examples.addIdeas(x, 1, 6, 4);
        Examples.addIdeas(x, 3, 5);
        checks.due("matchOf(1, 0)", 1, () -> x.matchOf(1, 0));
        checks.due("matchOf(1, 1)", -1, () -> x.matchOf(1, 1));
        checks.due("matchOf(1, 2)", 0, () -> x.matchOf(1, 2));
        checks.due("matchOf(2, 0)", -1, () -> x.matchOf(2, 0));
        checks.due("matchOf(3, 1)", 0, () -> x.matchOf(3, 1));
        for (int model : Examples.OUTSIDE_MODELS) {
            checks.throwsOutOfBounds("matchOf(" + model + ", 0)", () -> x.matchOf(model, 0));
        }
        for (int idea : new int[] {-1, 3, 4, 5, Integer.MIN_VALUE, Integer.MAX_VALUE}) {
            checks.throwsOutOfBounds("matchOf(1, " + idea + ")", () -> x.matchOf(1, idea));
        }
        checks.due("an idea that only the pupil's map has", 1, () -> x.ideas(3));
        checks.due("is there for matchOf", -1, () -> x.matchOf(3, 2));
        x.clear(0);
        checks.throwsOutOfBounds("no idea after clear", () -> x.matchOf(1, 0));
    }

    private static void promise15MatchOfOfSeveral() {
        ConceptMarker x = Examples.twins(0, 0, 0);
        checks.due("without links the lowest for 0", 0, () -> x.matchOf(1, 0));
        checks.due("then the lowest for 1", 1, () -> x.matchOf(1, 1));
        checks.due("then the lowest for 2", 2, () -> x.matchOf(1, 2));
        Examples.addLinks(x, 1, 10, 200);
        Examples.addLinks(x, 0, 120);
        checks.due("of two best ones the lower for 0", 1, () -> x.matchOf(1, 0));
        checks.due("what follows for 1", 2, () -> x.matchOf(1, 1));
        checks.due("what follows for 2", 0, () -> x.matchOf(1, 2));
        ConceptMarker full = new ConceptMarker();
        Examples.addIdeas(full, 0, 7, 7, 7);
        Examples.addIdeas(full, 1, 7, 7);
        Examples.addLinks(full, 1, 10);
        Examples.addLinks(full, 0, 120);
        checks.due("none where points ask for it", -1, () -> full.matchOf(1, 0));
        checks.due("the points' from", 0, () -> full.matchOf(1, 1));
        checks.due("the points' to", 1, () -> full.matchOf(1, 2));
        Examples.addLinks(full, 0, 10);
        checks.due("none comes last", 0, () -> full.matchOf(1, 0));
        checks.due("the next one", 1, () -> full.matchOf(1, 1));
        checks.due("none is left for the last", -1, () -> full.matchOf(1, 2));
        Examples.addLinks(full, 0, 20);
        checks.due("the lowest for 0 again", 0, () -> full.matchOf(1, 0));
        checks.due("an idea before none for 1", 1, () -> full.matchOf(1, 1));
    }

    private static void promise16Verdict() {
        ConceptMarker x = Examples.twins(0, 1, 2);
        x.addIdea(1, 3);
        Examples.addLinks(x, 1, 12, 132, 212);
        checks.due("no link of the pupil", 0, () -> x.verdict(1, 0, 1, 2));
        checks.due("to is given to no idea", 0, () -> x.verdict(1, 1, 3, 2));
        Examples.addLinks(x, 0, 101);
        checks.due("the other direction, of another kind", 0, () -> x.verdict(1, 0, 1, 2));
        Examples.addLinks(x, 0, 102);
        checks.due("the other direction", 1, () -> x.verdict(1, 0, 1, 2));
        Examples.addLinks(x, 0, 13);
        checks.due("another kind goes before the other direction", 2, () -> x.verdict(1, 0, 1, 2));
        Examples.addLinks(x, 0, 12);
        checks.due("held goes before all", 3, () -> x.verdict(1, 0, 1, 2));
        Examples.addLinks(x, 0, 20);
        x.chain(0, 0, 2);
        Examples.addLinks(x, 0, 200, 10);
        checks.due("a link that is implied", 3, () -> x.verdict(1, 2, 1, 2));
        x.link(0, 0, 1, 0);
        checks.due("no more implied", 0, () -> x.verdict(1, 2, 1, 2));
        x.link(0, 0, 1, 0);
        x.chain(0, 0, 3);
        checks.due("a wrong kind that is only implied", 0, () -> x.verdict(1, 2, 1, 2));
        ConceptMarker gone = new ConceptMarker();
        Examples.addIdeas(gone, 0, 1);
        Examples.addIdeas(gone, 2, 0, 1);
        Examples.addLinks(gone, 2, 10, 101);
        checks.due("from is given to no idea", 0, () -> gone.verdict(2, 0, 1, 0));
        checks.due("to is given to no idea, and has index 0", 0, () -> gone.verdict(2, 1, 0, 1));
        ConceptMarker turned = new ConceptMarker();
        Examples.addIdeas(turned, 0, 8, 9);
        Examples.addIdeas(turned, 3, 9, 8);
        Examples.addLinks(turned, 0, 10);
        Examples.addLinks(turned, 3, 100, 10);
        checks.due("the pupil's ideas have other numbers", 3, () -> turned.verdict(3, 1, 0, 0));
        checks.due("and its link is reversed for the other one", 1, () -> turned.verdict(3, 0, 1, 0));
    }

    private static void promise16VerdictOfIdeasThatAreLacking() {
        ConceptMarker x = new ConceptMarker();
        Examples.addIdeas(x, 0, 10, 11, 12, 13, 14);
        Examples.addLinks(x, 0, 42, 402);
        Examples.addIdeas(x, 1, 11, 20, 10);
        Examples.addLinks(x, 1, 12, 102, 212, 122);
        checks.due("the pupil's idea 1 has the first one", 0, () -> x.matchOf(1, 1));
        checks.due("from 1 to none", 0, () -> x.verdict(1, 0, 1, 2));
        checks.due("from none to 1", 0, () -> x.verdict(1, 1, 0, 2));
        checks.due("from 0 to none", 0, () -> x.verdict(1, 2, 1, 2));
        checks.due("from none to 0", 0, () -> x.verdict(1, 1, 2, 2));
    }

    private static void promise16VerdictRefusals() {
        ConceptMarker x = Examples.twins(0, 1, 2);
        x.addIdea(0, 4);
        Examples.addLinks(x, 1, 10);
        Examples.addLinks(x, 0, 121);
        x.chain(0, 1, 3);
        for (int model : Examples.OUTSIDE_MODELS) {
            checks.throwsOutOfBounds("verdict of model " + model, () -> x.verdict(model, 0, 1, 0));
            checks.throwsOutOfBounds("verdict of model " + model + " all wrong", () -> x.verdict(model, 1, 1, 7));
        }
        for (int idea : new int[] {-1, 3, 5, Integer.MIN_VALUE, Integer.MAX_VALUE}) {
            checks.throwsOutOfBounds("verdict from " + idea, () -> x.verdict(1, idea, 1, 0));
            checks.throwsOutOfBounds("verdict to " + idea, () -> x.verdict(1, 0, idea, 0));
            checks.throwsOutOfBounds("verdict to itself " + idea, () -> x.verdict(1, idea, idea, 4));
        }
        for (int kind : Examples.OUTSIDE_KINDS) {
            checks.throwsArgument("verdict of kind " + kind, () -> x.verdict(1, 0, 1, kind));
        }
        checks.throwsArgument("verdict of an idea to itself", () -> x.verdict(1, 2, 2, 0));
        checks.throwsState("verdict of another kind", () -> x.verdict(1, 0, 1, 1));
        checks.throwsState("verdict of the other direction", () -> x.verdict(1, 1, 0, 0));
        checks.throwsState("verdict of the pupil's link", () -> x.verdict(1, 1, 2, 1));
        Examples.addLinks(x, 1, 121);
        checks.throwsState("verdict of a link that the model only holds", () -> x.verdict(1, 0, 2, 3));
        checks.due("verdict after refusals", 0, () -> x.verdict(1, 0, 1, 0));
    }

    private static void promise17Lacking() {
        ConceptMarker x = new ConceptMarker();
        Examples.addIdeas(x, 1, 0, 1, 2, 0, 5);
        checks.due("all are lacking", 5, () -> x.lacking(1));
        x.addIdea(0, 0);
        checks.due("four are lacking", 4, () -> x.lacking(1));
        x.addIdea(0, 9);
        checks.due("an idea that is alike to none helps nothing", 4, () -> x.lacking(1));
        x.addIdea(0, 0);
        x.addIdea(0, 0);
        checks.due("a third idea of a word finds none", 3, () -> x.lacking(1));
        x.synonyms(9, 2);
        checks.due("a synonym does", 2, () -> x.lacking(1));
        x.synonyms(0, 2);
        checks.due("four ideas for three of the model", 2, () -> x.lacking(1));
        x.synonyms(0, 1);
        checks.due("four ideas for four of the model", 1, () -> x.lacking(1));
        checks.due("an empty model lacks none", 0, () -> x.lacking(2));
    }

    private static void promise18Hint() {
        ConceptMarker x = Examples.twins(0, 1, 2);
        checks.due("hint to a model without links", -1, () -> x.hint(1));
        Examples.addLinks(x, 1, 211);
        checks.due("the only link", 211, () -> x.hint(1));
        Examples.addLinks(x, 0, 210);
        checks.due("though another kind is there", 211, () -> x.hint(1));
        Examples.addLinks(x, 0, 211);
        checks.due("nothing to add", -1, () -> x.hint(1));
        ConceptMarker lost = new ConceptMarker();
        Examples.addIdeas(lost, 0, 0, 1);
        Examples.addIdeas(lost, 1, 0, 1, 2);
        Examples.addLinks(lost, 1, 120, 201);
        checks.due("no link helps where an idea is lacking", -1, () -> lost.hint(1));
        ConceptMarker other = new ConceptMarker();
        Examples.addIdeas(other, 0, 8, 9);
        Examples.addIdeas(other, 2, 9, 8);
        Examples.addLinks(other, 2, 13);
        checks.due("in the numbers of the pupil's map", 103, () -> other.hint(2));
        ConceptMarker high = Examples.twins(0, 1, 2, 3, 4);
        Examples.addLinks(high, 1, 433);
        checks.due("the highest link", 433, () -> high.hint(1));
        ConceptMarker small = new ConceptMarker();
        Examples.addIdeas(small, 0, 0, 1, 2, 3, 4);
        Examples.addIdeas(small, 1, 4, 3);
        Examples.addLinks(small, 1, 10);
        checks.due("from an idea that the model has no number for", 430, () -> small.hint(1));
        small.link(1, 0, 1, 0);
        Examples.addLinks(small, 1, 100);
        checks.due("to an idea that the model has no number for", 340, () -> small.hint(1));
    }

    private static void promise18HintOfSeveral() {
        ConceptMarker x = Examples.twins(0, 1, 2);
        Examples.addLinks(x, 1, 202, 123, 20);
        checks.due("the lowest from", 20, () -> x.hint(1));
        x.link(1, 0, 2, 0);
        checks.due("the lowest from that is left", 123, () -> x.hint(1));
        Examples.addLinks(x, 1, 121);
        checks.due("the lowest kind of two for the same ideas", 121, () -> x.hint(1));
        x.link(1, 1, 2, 1);
        Examples.addLinks(x, 1, 103);
        checks.due("the lowest to", 103, () -> x.hint(1));
        ConceptMarker y = Examples.twins(0, 1, 2);
        Examples.addLinks(y, 1, 10, 200, 201);
        checks.due("the greatest, not the lowest", 200, () -> y.hint(1));
        Examples.addLinks(y, 0, 203);
        checks.due("a wrong kind is there: 4 are more than 2", 10, () -> y.hint(1));
        ConceptMarker free = Examples.twins(6, 6, 6);
        Examples.addLinks(free, 1, 212);
        checks.due("another matching makes the lowest as good", 12, () -> free.hint(1));
    }

    private static void promise18HintByChains() {
        ConceptMarker x = Examples.twins(0, 1, 2, 3);
        x.chain(0, 0, 0);
        Examples.addLinks(x, 1, 10, 120, 230, 20, 130, 30);
        Examples.addLinks(x, 0, 10, 230);
        checks.due("the link that implies most", 120, () -> x.hint(1));
        checks.due("adds them all", 16, () -> x.gain(1));
        x.link(1, 0, 1, 0);
        x.link(1, 1, 2, 0);
        x.link(1, 2, 3, 0);
        checks.due("even if the model does not have it", 120, () -> x.hint(1));
        checks.due("adds what it implies", 12, () -> x.gain(1));
        ConceptMarker only = Examples.twins(0, 1, 2);
        only.chain(0, 0, 1);
        Examples.addLinks(only, 0, 10, 120);
        Examples.addLinks(only, 1, 22, 13);
        checks.due("a wrong kind that is only held stays worth nothing", 22, () -> only.hint(1));
        ConceptMarker held = Examples.twins(0, 1, 2);
        held.chain(0, 0, 1);
        Examples.addLinks(held, 0, 10, 120);
        Examples.addLinks(held, 1, 21, 22);
        checks.due("0 to 2 is held, and worth nothing for another kind", 4, () -> held.points(1));
        checks.due("the other kind", 22, () -> held.hint(1));
        held.link(1, 0, 2, 2);
        checks.due("all is held", -1, () -> held.hint(1));
        Examples.addLinks(held, 1, 22, 23, 20);
        checks.due("a link of its own makes the others wrong kinds", 20, () -> held.hint(1));
        checks.due("and adds for each", 8, () -> held.gain(1));
    }

    private static void promise19Gain() {
        ConceptMarker x = Examples.twins(0, 1, 2);
        checks.due("gain to a model without links", 0, () -> x.gain(1));
        Examples.addLinks(x, 1, 10);
        checks.due("a link that is missing", 4, () -> x.gain(1));
        Examples.addLinks(x, 0, 100);
        checks.due("a link that is reversed", 3, () -> x.gain(1));
        Examples.addLinks(x, 0, 13);
        checks.due("a link of a wrong kind", 2, () -> x.gain(1));
        Examples.addLinks(x, 0, 10);
        checks.due("a link that is held", 0, () -> x.gain(1));
        Examples.addLinks(x, 1, 120, 121, 122, 123);
        checks.due("one held and three of wrong kinds", 10, () -> x.gain(1));
        checks.due("gain of another model", 0, () -> x.gain(3));
    }

    private static void marksOfNoModel() {
        ConceptMarker x = Examples.twins(0, 1);
        for (int model : Examples.OUTSIDE_MODELS) {
            checks.throwsOutOfBounds("points(" + model + ")", () -> x.points(model));
            checks.throwsOutOfBounds("pointsByTrying(" + model + ")", () -> x.pointsByTrying(model));
            checks.throwsOutOfBounds("mark(" + model + ")", () -> x.mark(model));
            checks.throwsOutOfBounds("lacking(" + model + ")", () -> x.lacking(model));
            checks.throwsOutOfBounds("hint(" + model + ")", () -> x.hint(model));
            checks.throwsOutOfBounds("gain(" + model + ")", () -> x.gain(model));
        }
    }

    private static void marksChangeNothing() {
        ConceptMarker x = Examples.twins(3, 3, 3);
        x.chain(0, 0, 1);
        Examples.addLinks(x, 0, 10, 120);
        Examples.addLinks(x, 1, 201, 13);
        for (int round = 0; round < 2; round++) {
            checks.due("points", 4, () -> x.points(1));
            checks.due("hint", 213, () -> x.hint(1));
            checks.due("gain", 4, () -> x.gain(1));
            checks.due("verdict", 2, () -> x.verdict(1, 2, 0, 1));
            checks.due("links of the pupil", 2, () -> x.links(0));
            checks.due("held of the pupil", 3, () -> x.held(0));
            checks.due("links of the model", 2, () -> x.links(1));
        }
    }
}
