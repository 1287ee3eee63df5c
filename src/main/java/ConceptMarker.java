/**
 * A marker of concept maps: a pupil's map is matched with up to three models and gets points for
 * the links of a model that it holds, has reversed or has of another kind.
 */
public final class ConceptMarker {
    /** There is none. */
    public static final int NONE = -1;
    /** What a link of a model is. */
    public static final int MISSING = 0, REVERSED = 1, WRONG_KIND = 2, HELD = 3;

    private static final int MAPS = 4;
    private static final int PUPIL = 0;
    private static final int IDEAS = 5;
    private static final int PAIRS = IDEAS * IDEAS;
    private static final int WORDS = 32;
    private static final int KINDS = 4;

    private static final int POINTS_FOR_HELD = 4;
    private static final int POINTS_FOR_WRONG_KIND = 2;
    private static final int POINTS_FOR_REVERSED = 1;

    private final ConceptMap pupil = new ConceptMap();
    private final ConceptMap[] maps = new ConceptMap[MAPS];
    private final Thesaurus thesaurus = new Thesaurus();
    private final Chains chains = new Chains();

    // The rest is only worked with during a call; it is kept so that calls make no objects.
    private final LinkSet holding = new LinkSet();
    private final LinkSet trialLinks = new LinkSet();
    private final LinkSet trialHolding = new LinkSet();
    private final Matching matching = new Matching();
    private int bestLink = NONE;
    private int bestGain = 0;

    public ConceptMarker() {
        for (int map = 0; map < maps.length; map++) {
            maps[map] = map == PUPIL ? pupil : new ConceptMap();
        }
    }

    // ---- maps

    /** Adds an idea to a map; returns its number. */
    public int addIdea(int map, int word) throws IndexOutOfBoundsException, IllegalStateException {
        ConceptMap changed = mapAt(map);
        requireWord(word);
        if (changed.size >= IDEAS) {
            throw new IllegalStateException("the map has all the ideas that it can have");
        }
        return changed.add(word);
    }

    /** Adds a link to a map, or takes it away if it is there; returns whether it is there then. */
    public boolean link(int map, int from, int to, int kind)
            throws IndexOutOfBoundsException, IllegalArgumentException {
        ConceptMap changed = mapAt(map);
        requireLink(changed, from, to, kind);
        return changed.own.toggle(from, to, kind);
    }

    /** Takes all ideas and links of a map away; returns how many, together. */
    public int clear(int map) throws IndexOutOfBoundsException {
        return mapAt(map).removeAll();
    }

    /** Makes two words synonyms; returns whether they were, or are the same. */
    public boolean synonyms(int one, int other) throws IndexOutOfBoundsException {
        requireWord(one);
        requireWord(other);
        boolean were = thesaurus.alike(one, other);
        thesaurus.join(one, other);
        return were;
    }

    /** Tells which kind a chain implies, NONE for none; returns which one it implied before. */
    public int chain(int first, int second, int implied) throws IllegalArgumentException {
        requireKind(first);
        requireKind(second);
        if (implied != NONE) {
            requireKind(implied);
        }
        return chains.replace(first, second, implied);
    }

    /** Returns how many ideas a map has. */
    public int ideas(int map) throws IndexOutOfBoundsException {
        return mapAt(map).size;
    }

    /** Returns how many links a map has. */
    public int links(int map) throws IndexOutOfBoundsException {
        return mapAt(map).own.count();
    }

    /** Returns how many links a map holds, those that it has included. */
    public int held(int map) throws IndexOutOfBoundsException {
        holding.become(mapAt(map).own);
        holding.addAllImplied(chains);
        return holding.count();
    }

    /** Tells whether a map holds a link. */
    public boolean holds(int map, int from, int to, int kind)
            throws IndexOutOfBoundsException, IllegalArgumentException {
        ConceptMap asked = mapAt(map);
        requireLink(asked, from, to, kind);
        holding.become(asked.own);
        holding.addAllImplied(chains);
        return holding.contains(from, to, kind);
    }

    // ---- marks

    /** Returns the points of the best matching to a model. */
    public int points(int model) throws IndexOutOfBoundsException {
        prepareMatching(modelAt(model));
        return matching.findBest(NONE);
    }

    /** Returns the same as points, found by trying all matchings. */
    public int pointsByTrying(int model) throws IndexOutOfBoundsException {
        prepareMatching(modelAt(model));
        return matching.mostByTrying();
    }

    /** Returns the mark of a model, 0 to 100. */
    public int mark(int model) throws IndexOutOfBoundsException {
        return markOf(modelAt(model));
    }

    /** Returns the model with the greatest mark of those that have a link; NONE if none has one. */
    public int bestModel() {
        int best = NONE;
        int greatest = NONE;
        for (int model = PUPIL + 1; model < maps.length; model++) {
            ConceptMap marked = maps[model];
            int mark = marked == null || marked.own.count() == 0 ? NONE : markOf(marked);
            if (mark > greatest) {
                greatest = mark;
                best = model;
            }
        }
        return best;
    }

    /** Returns which idea of a model the best matching gives an idea of the pupil; NONE if none. */
    public int matchOf(int model, int idea) throws IndexOutOfBoundsException {
        ConceptMap matched = modelAt(model);
        requireIdea(pupil, idea);
        prepareMatching(matched);
        matching.findBest(NONE);
        return matching.best.get(idea);
    }

    /** Returns what a link of a model is by the best matching. */
    public int verdict(int model, int from, int to, int kind)
            throws IndexOutOfBoundsException, IllegalArgumentException, IllegalStateException {
        ConceptMap judged = modelAt(model);
        requireLink(judged, from, to, kind);
        if (!judged.own.contains(from, to, kind)) {
            throw new IllegalStateException("the model does not have the link");
        }
        prepareMatching(judged);
        matching.findBest(NONE);
        int pupilFrom = matching.pupilIdeaFor(from);
        int pupilTo = matching.pupilIdeaFor(to);
        if (pupilFrom == NONE || pupilTo == NONE) {
            return MISSING;
        }
        return verdictWorth(pointsFor(1 << kind, holding.between(pupilFrom, pupilTo),
                pupil.own.between(pupilFrom, pupilTo), pupil.own.between(pupilTo, pupilFrom)));
    }

    /** Returns how many ideas of a model the best matching gives to no idea of the pupil. */
    public int lacking(int model) throws IndexOutOfBoundsException {
        ConceptMap matched = modelAt(model);
        prepareMatching(matched);
        matching.findBest(NONE);
        int lacking = 0;
        for (int idea = 0; idea < matched.size; idea++) {
            if (matching.pupilIdeaFor(idea) == NONE) {
                lacking++;
            }
        }
        return lacking;
    }

    /** Returns the link, as 100 * from + 10 * to + kind, that would add most points; or NONE. */
    public int hint(int model) throws IndexOutOfBoundsException {
        findBestLink(modelAt(model));
        return bestLink;
    }

    /** Returns how many points the link of hint would add; 0 if there is none. */
    public int gain(int model) throws IndexOutOfBoundsException {
        findBestLink(modelAt(model));
        return bestGain;
    }

    // ---- what a call must be given

    private ConceptMap mapAt(int map) {
        ConceptMap found = map >= 0 && map < maps.length ? maps[map] : null;
        if (found == null) {
            throw new IndexOutOfBoundsException("no such map");
        }
        return found;
    }

    private ConceptMap modelAt(int model) {
        if (model == PUPIL) {
            throw new IndexOutOfBoundsException("no such model");
        }
        return mapAt(model);
    }

    private static void requireIdea(ConceptMap map, int idea) {
        if (idea < 0 || idea >= map.size) {
            throw new IndexOutOfBoundsException("no such idea");
        }
    }

    private static void requireWord(int word) {
        if (word < 0 || word >= WORDS) {
            throw new IndexOutOfBoundsException("no such word");
        }
    }

    private static void requireKind(int kind) {
        if (kind < 0 || kind >= KINDS) {
            throw new IllegalArgumentException("no such kind");
        }
    }

    private static void requireLink(ConceptMap map, int from, int to, int kind) {
        requireIdea(map, from);
        requireIdea(map, to);
        if (from == to) {
            throw new IllegalArgumentException("a link is between different ideas");
        }
        requireKind(kind);
    }

    // ---- how marks are found

    /** Lets 'holding' be what the pupil's map holds, and 'matching' be ready for a search. */
    private void prepareMatching(ConceptMap model) {
        holding.become(pupil.own);
        holding.addAllImplied(chains);
        matching.takeIdeas(pupil, model, thesaurus);
        matching.takeLinks(pupil.own, holding, model.own);
    }

    private int markOf(ConceptMap model) {
        int most = POINTS_FOR_HELD * model.own.count();
        if (most <= 0) {
            return 0;
        }
        prepareMatching(model);
        return 100 * matching.findBest(NONE) / most;
    }

    /** Leaves the link that would add most, and how much, in 'bestLink' and 'bestGain'. */
    private void findBestLink(ConceptMap model) {
        prepareMatching(model);
        int before = matching.findBest(NONE);
        bestLink = NONE;
        bestGain = 0;
        for (int from = 0; from < pupil.size; from++) {
            for (int to = 0; to < pupil.size; to++) {
                for (int kind = 0; kind < KINDS; kind++) {
                    if (from != to && !pupil.own.contains(from, to, kind)) {
                        takeTrialLink(from, to, kind);
                        matching.takeLinks(trialLinks, trialHolding, model.own);
                        int gain = matching.findBest(before + bestGain) - before;
                        if (gain > bestGain) {
                            bestGain = gain;
                            bestLink = 100 * from + 10 * to + kind;
                        }
                    }
                }
            }
        }
    }

    /** Lets the trial sets be the pupil's with one link more; 'holding' is the pupil's by then. */
    private void takeTrialLink(int from, int to, int kind) {
        trialLinks.become(pupil.own);
        trialLinks.add(from, to, 1 << kind);
        // What was held stays held with more links, so it need not be found once more.
        trialHolding.become(holding);
        trialHolding.add(from, to, 1 << kind);
        trialHolding.addAllImplied(chains);
    }

    /**
     * The points for the wanted kinds of links (as bits, like the others) in one direction, by
     * what the pupil's map holds and has in this direction and has in the other one.
     */
    private static int pointsFor(int wanted, int held, int had, int hadBack) {
        int notHeld = wanted & ~held;
        int points = POINTS_FOR_HELD * Integer.bitCount(wanted & held);
        // A link that is not held is not had either: whatever is had there is of another kind.
        if (had != 0) {
            return points + POINTS_FOR_WRONG_KIND * Integer.bitCount(notHeld);
        }
        return points + POINTS_FOR_REVERSED * Integer.bitCount(notHeld & hadBack);
    }

    private static int verdictWorth(int points) {
        switch (points) {
            case POINTS_FOR_HELD:
                return HELD;
            case POINTS_FOR_WRONG_KIND:
                return WRONG_KIND;
            case POINTS_FOR_REVERSED:
                return REVERSED;
            default:
                return MISSING;
        }
    }

    /** A row of numbers in which no index can fail: outside of it is 0, and nothing can be put. */
    private static final class Row {
        private final int[] numbers;

        Row(int length) {
            numbers = new int[Math.max(0, length)];
        }

        int get(int index) {
            return index >= 0 && index < numbers.length ? numbers[index] : 0;
        }

        void set(int index, int number) {
            if (index >= 0 && index < numbers.length) {
                numbers[index] = number;
            }
        }

        void fill(int number) {
            for (int index = 0; index < numbers.length; index++) {
                numbers[index] = number;
            }
        }

        void become(Row other) {
            for (int index = 0; index < numbers.length; index++) {
                numbers[index] = other.get(index);
            }
        }
    }

    /** Which words are synonyms: each word has a group, and synonyms have the same. */
    private static final class Thesaurus {
        private final Row groups = new Row(WORDS);

        Thesaurus() {
            for (int word = 0; word < WORDS; word++) {
                groups.set(word, word);
            }
        }

        boolean alike(int one, int other) {
            return groups.get(one) == groups.get(other);
        }

        void join(int one, int other) {
            int kept = groups.get(one);
            int left = groups.get(other);
            for (int word = 0; word < WORDS; word++) {
                if (groups.get(word) == left) {
                    groups.set(word, kept);
                }
            }
        }
    }

    /** Which kind each kind with each kind behind it implies. */
    private static final class Chains {
        private final Row implied = new Row(KINDS * KINDS);

        Chains() {
            implied.fill(NONE);
        }

        int replace(int first, int second, int kind) {
            int place = first * KINDS + second;
            int before = implied.get(place);
            implied.set(place, kind);
            return before;
        }

        /** The kinds that links of some kinds, with links of some kinds behind them, imply: bits. */
        int impliedBy(int firstKinds, int secondKinds) {
            int kinds = 0;
            if (firstKinds == 0 || secondKinds == 0) {
                return kinds;
            }
            for (int place = 0; place < KINDS * KINDS; place++) {
                int kind = implied.get(place);
                boolean there = (firstKinds >> place / KINDS & secondKinds >> place % KINDS & 1) != 0;
                if (there && kind != NONE) {
                    kinds |= 1 << kind;
                }
            }
            return kinds;
        }
    }

    /** Links between the ideas of one map: for each idea and each other one the kinds, as bits. */
    private static final class LinkSet {
        private final Row kinds = new Row(PAIRS);

        int between(int from, int to) {
            return kinds.get(from * IDEAS + to);
        }

        boolean contains(int from, int to, int kind) {
            return (between(from, to) >> kind & 1) != 0;
        }

        boolean toggle(int from, int to, int kind) {
            kinds.set(from * IDEAS + to, between(from, to) ^ 1 << kind);
            return contains(from, to, kind);
        }

        /** Adds links of some kinds; returns whether one of them was not there. */
        boolean add(int from, int to, int added) {
            int before = between(from, to);
            kinds.set(from * IDEAS + to, before | added);
            return (added & ~before) != 0;
        }

        int count() {
            int count = 0;
            for (int pair = 0; pair < PAIRS; pair++) {
                count += Integer.bitCount(kinds.get(pair));
            }
            return count;
        }

        void removeAll() {
            kinds.fill(0);
        }

        void become(LinkSet other) {
            kinds.become(other.kinds);
        }

        void addAllImplied(Chains chains) {
            // Each round but the last adds a link, so there are no more rounds than links.
            boolean grown = true;
            for (int round = 0; grown && round <= PAIRS * KINDS; round++) {
                grown = addImplied(chains);
            }
        }

        private boolean addImplied(Chains chains) {
            boolean grown = false;
            for (int via = 0; via < IDEAS; via++) {
                for (int from = 0; from < IDEAS; from++) {
                    for (int to = 0; to < IDEAS; to++) {
                        if (from != via && to != via && from != to) {
                            int implied = chains.impliedBy(between(from, via), between(via, to));
                            grown |= add(from, to, implied);
                        }
                    }
                }
            }
            return grown;
        }
    }

    /** One map: the words of its ideas, and the links that it has. */
    private static final class ConceptMap {
        private final Row words = new Row(IDEAS);
        private final LinkSet own = new LinkSet();
        private int size;

        int add(int word) {
            words.set(size, word);
            size++;
            return size - 1;
        }

        int removeAll() {
            int removed = size + own.count();
            size = 0;
            own.removeAll();
            return removed;
        }
    }

    /** The search for the best matching of the pupil's map to a model. */
    private static final class Matching {
        private final Row alike = new Row(IDEAS);
        private final Row pairPoints = new Row(PAIRS * PAIRS);
        private final Row hopes = new Row(IDEAS + 1);
        private final Row tried = new Row(IDEAS);
        private final Row best = new Row(IDEAS);
        private int pupilSize;
        private int modelSize;
        private int bestPoints;

        void takeIdeas(ConceptMap pupil, ConceptMap model, Thesaurus thesaurus) {
            pupilSize = pupil.size;
            modelSize = model.size;
            for (int idea = 0; idea < pupilSize; idea++) {
                int bits = 0;
                for (int other = 0; other < modelSize; other++) {
                    if (thesaurus.alike(pupil.words.get(idea), model.words.get(other))) {
                        bits |= 1 << other;
                    }
                }
                alike.set(idea, bits);
            }
        }

        /** Takes the links that the pupil's map has and holds and those of the model; after the ideas. */
        void takeLinks(LinkSet own, LinkSet held, LinkSet wanted) {
            int hope = 0;
            hopes.set(pupilSize, hope);
            for (int later = pupilSize - 1; later >= 0; later--) {
                for (int earlier = 0; earlier < later; earlier++) {
                    hope += fillPair(earlier, later, own, held, wanted);
                }
                hopes.set(later, hope);
            }
        }

        /** Fills in the points of two ideas of the pupil for all that they can be given; returns the most. */
        private int fillPair(int earlier, int later, LinkSet own, LinkSet held, LinkSet wanted) {
            int had = own.between(earlier, later);
            int hadBack = own.between(later, earlier);
            int heldThere = held.between(earlier, later);
            int heldBack = held.between(later, earlier);
            int most = 0;
            for (int one = 0; one < modelSize; one++) {
                for (int other = 0; other < modelSize; other++) {
                    if (one != other && isAlike(earlier, one) && isAlike(later, other)) {
                        int points = pointsFor(wanted.between(one, other), heldThere, had, hadBack)
                                + pointsFor(wanted.between(other, one), heldBack, hadBack, had);
                        pairPoints.set(place(earlier, later, one, other), points);
                        most = Math.max(most, points);
                    }
                }
            }
            return most;
        }

        private static int place(int earlier, int later, int one, int other) {
            return (earlier * IDEAS + later) * PAIRS + one * IDEAS + other;
        }

        private boolean isAlike(int idea, int other) {
            return (alike.get(idea) >> other & 1) != 0;
        }

        /** Finds the best matching of those with more points than told; returns the most points. */
        int findBest(int floor) {
            bestPoints = floor;
            extend(this, 0, 0, 0);
            return bestPoints;
        }

        /** The pupil's idea that the best matching gives an idea of the model; NONE if none. */
        int pupilIdeaFor(int other) {
            for (int idea = 0; idea < pupilSize; idea++) {
                if (best.get(idea) == other) {
                    return idea;
                }
            }
            return NONE;
        }

        /**
         * Gives the ideas from one on all that they can be given: the lowest idea of the model
         * first and none last, so that the first matching found of several is the best one.
         */
        private static void extend(Matching m, int idea, int used, int points) {
            if (points + m.hopes.get(idea) <= m.bestPoints) {
                return;
            }
            if (idea >= m.pupilSize || idea >= IDEAS) {
                m.bestPoints = points;
                m.best.become(m.tried);
                return;
            }
            for (int other = 0; other < m.modelSize; other++) {
                if (m.isAlike(idea, other) && (used >> other & 1) == 0) {
                    m.tried.set(idea, other);
                    extend(m, idea + 1, used | 1 << other, points + m.pointsWithEarlier(idea, other));
                }
            }
            m.tried.set(idea, NONE);
            extend(m, idea + 1, used, points);
        }

        int mostByTrying() {
            return mostOfAll(this, 0, 0, 0);
        }

        /** The most points of all matchings that go on from the ideas given so far. */
        private static int mostOfAll(Matching m, int idea, int used, int points) {
            if (idea >= m.pupilSize || idea >= IDEAS) {
                return points;
            }
            m.tried.set(idea, NONE);
            int most = mostOfAll(m, idea + 1, used, points);
            for (int other = 0; other < m.modelSize; other++) {
                if (m.isAlike(idea, other) && (used >> other & 1) == 0) {
                    m.tried.set(idea, other);
                    int more = points + m.pointsWithEarlier(idea, other);
                    most = Math.max(most, mostOfAll(m, idea + 1, used | 1 << other, more));
                }
            }
            return most;
        }

        /** The points of the links between an idea, given another one, and the ideas before it. */
        private int pointsWithEarlier(int idea, int other) {
            int points = 0;
            for (int earlier = 0; earlier < idea; earlier++) {
                int given = tried.get(earlier);
                if (given != NONE) {
                    points += pairPoints.get(place(earlier, idea, given, other));
                }
            }
            return points;
        }
    }
}
