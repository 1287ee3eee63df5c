import java.util.ArrayList;
import java.util.HashSet;
import java.util.List;
import java.util.Set;

/**
 * The document once more, word by word and without regard to speed: what random runs of calls on
 * ConceptMarker are compared with. It shares no code and no way of working with ConceptMarker.
 */
public final class PlainMarker {
    private record Link(int from, int to, int kind) {
    }

    private static final class PlainMap {
        final List<Integer> words = new ArrayList<>();
        final Set<Link> links = new HashSet<>();
    }

    private final List<PlainMap> maps =
            List.of(new PlainMap(), new PlainMap(), new PlainMap(), new PlainMap());
    private final Set<List<Integer>> synonymPairs = new HashSet<>();
    private final Integer[][] chains = new Integer[4][4];

    public int addIdea(int map, int word) {
        PlainMap changed = map(map, 0);
        word(word);
        if (changed.words.size() == 5) {
            throw new IllegalStateException();
        }
        changed.words.add(word);
        return changed.words.size() - 1;
    }

    public boolean link(int map, int from, int to, int kind) {
        PlainMap changed = map(map, 0);
        Link link = linkOf(changed, from, to, kind);
        return changed.links.add(link) || !changed.links.remove(link);
    }

    public int clear(int map) {
        PlainMap changed = map(map, 0);
        int gone = changed.words.size() + changed.links.size();
        changed.words.clear();
        changed.links.clear();
        return gone;
    }

    public boolean synonyms(int one, int other) {
        word(one);
        word(other);
        boolean were = alike(one, other);
        synonymPairs.add(List.of(one, other));
        return were;
    }

    public int chain(int first, int second, int implied) {
        kind(first);
        kind(second);
        if (implied != -1) {
            kind(implied);
        }
        Integer before = chains[first][second];
        chains[first][second] = implied == -1 ? null : (Integer) implied;
        return before == null ? -1 : before;
    }

    public int ideas(int map) {
        return map(map, 0).words.size();
    }

    public int links(int map) {
        return map(map, 0).links.size();
    }

    public int held(int map) {
        return heldBy(map(map, 0).links).size();
    }

    public boolean holds(int map, int from, int to, int kind) {
        PlainMap asked = map(map, 0);
        Link link = linkOf(asked, from, to, kind);
        return heldBy(asked.links).contains(link);
    }

    public int points(int model) {
        PlainMap marked = map(model, 1);
        return points(best(marked), marked, pupil().links);
    }

    public int pointsByTrying(int model) {
        return points(model);
    }

    public int mark(int model) {
        PlainMap marked = map(model, 1);
        return marked.links.isEmpty() ? 0 : 100 * points(model) / (4 * marked.links.size());
    }

    public int bestModel() {
        int best = -1;
        for (int model = 3; model >= 1; model--) {
            boolean may = !maps.get(model).links.isEmpty();
            if (may && (best == -1 || mark(model) >= mark(best))) {
                best = model;
            }
        }
        return best;
    }

    public int matchOf(int model, int idea) {
        PlainMap matched = map(model, 1);
        idea(pupil(), idea);
        return best(matched).get(idea);
    }

    public int verdict(int model, int from, int to, int kind) {
        PlainMap judged = map(model, 1);
        Link link = linkOf(judged, from, to, kind);
        if (!judged.links.contains(link)) {
            throw new IllegalStateException();
        }
        return verdict(best(judged), link, pupil().links, heldBy(pupil().links));
    }

    public int lacking(int model) {
        PlainMap matched = map(model, 1);
        Set<Integer> given = new HashSet<>(best(matched));
        given.remove(-1);
        return matched.words.size() - given.size();
    }

    public int hint(int model) {
        return hintAndGain(model)[0];
    }

    public int gain(int model) {
        return hintAndGain(model)[1];
    }

    private int[] hintAndGain(int model) {
        PlainMap marked = map(model, 1);
        List<List<Integer>> matchings = matchings(marked);
        int before = mostPoints(matchings, marked, pupil().links);
        int[] found = {-1, 0};
        for (int code = 0; code < 500; code++) {
            Link link = new Link(code / 100, code / 10 % 10, code % 10);
            boolean can = Math.max(link.from, link.to) < pupil().words.size()
                    && link.from != link.to && link.kind < 4;
            Set<Link> more = new HashSet<>(pupil().links);
            if (can && more.add(link)) {
                int gain = mostPoints(matchings, marked, more) - before;
                if (gain > found[1]) {
                    found = new int[] {code, gain};
                }
            }
        }
        return found;
    }

    private PlainMap pupil() {
        return maps.get(0);
    }

    private PlainMap map(int map, int lowest) {
        if (map < lowest || map > 3) {
            throw new IndexOutOfBoundsException();
        }
        return maps.get(map);
    }

    private static void idea(PlainMap map, int idea) {
        if (idea < 0 || idea >= map.words.size()) {
            throw new IndexOutOfBoundsException();
        }
    }

    private static void word(int word) {
        if (word < 0 || word > 31) {
            throw new IndexOutOfBoundsException();
        }
    }

    private static void kind(int kind) {
        if (kind < 0 || kind > 3) {
            throw new IllegalArgumentException();
        }
    }

    private static Link linkOf(PlainMap map, int from, int to, int kind) {
        idea(map, from);
        idea(map, to);
        if (from == to) {
            throw new IllegalArgumentException();
        }
        kind(kind);
        return new Link(from, to, kind);
    }

    /** Whether a way of pairs that were made synonyms leads from one word to the other. */
    private boolean alike(int one, int other) {
        Set<Integer> reached = new HashSet<>(Set.of(one));
        for (int step = 0; step < 32; step++) {
            for (List<Integer> pair : synonymPairs) {
                if (reached.contains(pair.get(0)) || reached.contains(pair.get(1))) {
                    reached.addAll(pair);
                }
            }
        }
        return reached.contains(other);
    }

    private Set<Link> heldBy(Set<Link> links) {
        Set<Link> held = new HashSet<>(links);
        int before;
        do {
            before = held.size();
            for (Link one : List.copyOf(held)) {
                for (Link other : List.copyOf(held)) {
                    Integer implied = chains[one.kind][other.kind];
                    if (one.to == other.from && one.from != other.to && implied != null) {
                        held.add(new Link(one.from, other.to, implied));
                    }
                }
            }
        } while (held.size() > before);
        return held;
    }

    /** All matchings, those that come first of equally good ones first. */
    private List<List<Integer>> matchings(PlainMap model) {
        List<List<Integer>> all = List.of(List.of());
        for (int word : pupil().words) {
            List<List<Integer>> longer = new ArrayList<>();
            for (List<Integer> matching : all) {
                for (int idea = 0; idea < model.words.size(); idea++) {
                    if (!matching.contains(idea) && alike(word, model.words.get(idea))) {
                        longer.add(with(matching, idea));
                    }
                }
                longer.add(with(matching, -1));
            }
            all = longer;
        }
        return all;
    }

    private static List<Integer> with(List<Integer> matching, int idea) {
        List<Integer> longer = new ArrayList<>(matching);
        longer.add(idea);
        return longer;
    }

    private List<Integer> best(PlainMap model) {
        List<Integer> best = null;
        int most = -1;
        Set<Link> held = heldBy(pupil().links);
        for (List<Integer> matching : matchings(model)) {
            int points = points(matching, model, pupil().links, held);
            if (points > most) {
                most = points;
                best = matching;
            }
        }
        return best;
    }

    private int mostPoints(List<List<Integer>> matchings, PlainMap model, Set<Link> links) {
        int most = 0;
        Set<Link> held = heldBy(links);
        for (List<Integer> matching : matchings) {
            most = Math.max(most, points(matching, model, links, held));
        }
        return most;
    }

    private int points(List<Integer> matching, PlainMap model, Set<Link> links) {
        return points(matching, model, links, heldBy(links));
    }

    private static int points(List<Integer> matching, PlainMap model, Set<Link> links, Set<Link> held) {
        int points = 0;
        for (Link link : model.links) {
            points += new int[] {0, 1, 2, 4}[verdict(matching, link, links, held)];
        }
        return points;
    }

    private static int verdict(List<Integer> matching, Link link, Set<Link> links, Set<Link> held) {
        int from = matching.indexOf(link.from);
        int to = matching.indexOf(link.to);
        if (from == -1 || to == -1) {
            return 0;
        }
        if (held.contains(new Link(from, to, link.kind))) {
            return 3;
        }
        for (int kind = 0; kind < 4; kind++) {
            if (kind != link.kind && links.contains(new Link(from, to, kind))) {
                return 2;
            }
        }
        return links.contains(new Link(to, from, link.kind)) ? 1 : 0;
    }
}
