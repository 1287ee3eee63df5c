/** Maps that several tests begin with. */
final class Examples {
    static final int[] OUTSIDE_MAPS = {-1, 4, Integer.MIN_VALUE, Integer.MAX_VALUE};
    static final int[] OUTSIDE_MODELS = {0, -1, 4, Integer.MIN_VALUE, Integer.MAX_VALUE};
    static final int[] OUTSIDE_WORDS = {-1, 32, Integer.MIN_VALUE, Integer.MAX_VALUE};
    static final int[] OUTSIDE_KINDS = {-1, 4, 32, Integer.MIN_VALUE, Integer.MAX_VALUE};

    private Examples() {
    }

    /** A marker whose pupil's map and model 1 have ideas of these words each. */
    static ConceptMarker twins(int... words) {
        ConceptMarker marker = new ConceptMarker();
        addIdeas(marker, 0, words);
        addIdeas(marker, 1, words);
        return marker;
    }

    static void addIdeas(ConceptMarker marker, int map, int... words) {
        for (int word : words) {
            marker.addIdea(map, word);
        }
    }

    /** Adds links told as three digits: from, to and kind. */
    static void addLinks(ConceptMarker marker, int map, int... links) {
        for (int link : links) {
            if (!marker.link(map, link / 100, link / 10 % 10, link % 10)) {
                throw new AssertionError("the example takes the link " + link + " away");
            }
        }
    }
}
