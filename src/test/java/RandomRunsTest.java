import java.lang.reflect.InvocationTargetException;
import java.lang.reflect.Method;
import java.util.Arrays;
import java.util.Random;

/**
 * Runs of at most 512 calls, right and wrong ones, each answer compared with that of PlainMarker:
 * maps are begun, any calls are made, and then all that can be asked of the pupil and a model is.
 */
public final class RandomRunsTest {
    private static final int ANY_CALLS = 150;
    private static final int[] ODD = {-1, 4, 5, 6, 31, 32, 33, Integer.MIN_VALUE, Integer.MAX_VALUE};
    private static final int[] MAPS = {0, 0, 0, 1, 1, 1, 1, 2, 2, 3};
    /** Each method with what its arguments are: Map, mOdel, Idea, Word, Kind, kind or None. */
    private static final String[] CALLS_TO_MAKE = {
        "addIdea MW", "link MIIK", "clear M", "synonyms WW", "chain KKN", "ideas M", "links M",
        "held M", "holds MIIK", "points O", "pointsByTrying O", "mark O", "bestModel ", "matchOf OI",
        "verdict OIIK", "lacking O", "hint O", "gain O"};
    private static final Checks checks = new Checks();

    private final int seed;
    private final Random random;
    private final ConceptMarker marker = new ConceptMarker();
    private final PlainMarker plain = new PlainMarker();
    private final int words;
    private final int ideas;
    private final int kinds;
    private int calls = 0;

    private RandomRunsTest(int seed) {
        this.seed = seed;
        random = new Random(seed);
        words = new int[] {1, 2, 4, 32}[seed % 4];
        ideas = new int[] {3, 4, 5}[seed % 3];
        kinds = new int[] {1, 2, 4}[seed / 4 % 3];
    }

    public static void main(String[] args) {
        int runs = args.length > 0 ? Integer.parseInt(args[0]) : 240;
        for (int seed = 0; seed < runs; seed++) {
            RandomRunsTest run = new RandomRunsTest(seed);
            run.beginMaps();
            run.makeAnyCalls();
            run.askAll(1 + seed % 2);
        }
        checks.end("RandomRunsTest");
    }

    private void beginMaps() {
        for (int map = 0; map < 3; map++) {
            for (int idea = random.nextInt(2); idea < ideas; idea++) {
                call("addIdea", map, argument('W'));
            }
            for (int link = random.nextInt(15); link > 0; link--) {
                call("link", map, argument('I'), argument('I'), argument('K'));
            }
        }
    }

    private void makeAnyCalls() {
        for (int call = 0; call < ANY_CALLS; call++) {
            String told = pick();
            String parts = told.substring(told.indexOf(' ') + 1);
            Object[] given = new Object[parts.length()];
            for (int place = 0; place < given.length; place++) {
                given[place] = argument(parts.charAt(place));
            }
            call(told.substring(0, told.indexOf(' ')), given);
        }
    }

    private void askAll(int model) {
        for (String name : new String[] {"points", "pointsByTrying", "mark", "lacking", "hint", "gain"}) {
            call(name, model);
        }
        for (int idea = 0; idea < 5; idea++) {
            call("matchOf", model, idea);
        }
        for (int link = 0; link < 100; link++) {
            if (link / 20 != link / 4 % 5) {
                call("holds", 0, link / 20, link / 4 % 5, link % 4);
                call("verdict", model, link / 20, link / 4 % 5, link % 4);
            }
        }
        call("bestModel");
    }

    /** Any of the calls, though links come most, clear seldom and few ideas beyond 'ideas'. */
    private String pick() {
        if (random.nextInt(4) == 0) {
            return "link MIIK";
        }
        String told = CALLS_TO_MAKE[random.nextInt(CALLS_TO_MAKE.length)];
        if (told.startsWith("clear") && random.nextInt(6) != 0) {
            return "held M";
        }
        boolean full = plain.ideas(0) >= ideas && plain.ideas(1) >= ideas;
        return told.startsWith("addIdea") && ideas < 5 && full ? "matchOf OI" : told;
    }

    private int argument(char part) {
        if (random.nextInt(60) == 0) {
            return ODD[random.nextInt(ODD.length)];
        }
        switch (part) {
            case 'M':
                return MAPS[random.nextInt(MAPS.length)];
            case 'O':
                return random.nextInt(4) == 0 ? random.nextInt(4) : 1;
            case 'I':
                return random.nextInt(ideas);
            case 'W':
                return random.nextInt(8) == 0 ? random.nextInt(32) : random.nextInt(words);
            case 'N':
                return random.nextInt(kinds + 1) - 1;
            default:
                return random.nextInt(8) == 0 ? random.nextInt(4) : random.nextInt(kinds);
        }
    }

    private void call(String name, Object... given) {
        String shown = "run " + seed + ", call " + calls + ", " + name + Arrays.toString(given);
        calls++;
        checks.due(shown, answer(plain, name, given), () -> answer(marker, name, given));
    }

    /** What a call returns, or the name of the class of what it throws. */
    private static Object answer(Object marker, String name, Object[] given) {
        try {
            Class<?>[] types = new Class<?>[given.length];
            Arrays.fill(types, int.class);
            Method method = marker.getClass().getMethod(name, types);
            return method.invoke(marker, given);
        } catch (InvocationTargetException thrown) {
            return thrown.getCause().getClass().getName();
        } catch (ReflectiveOperationException missing) {
            throw new AssertionError(missing);
        }
    }
}
