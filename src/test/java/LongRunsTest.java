import java.lang.reflect.InvocationTargetException;
import java.lang.reflect.Method;
import java.util.Arrays;
import java.util.Comparator;
import java.util.HashMap;
import java.util.Map;
import java.util.Random;

/**
 * All promises, 1 to 37, together: runs of 512 calls of every sort, ordinary numbers
 * and wrong ones, each answer held against the document written a second time.
 */
public final class LongRunsTest {
    private static final int MOST_CALLS = 512, RUNS = 500;
    private static final int[] STRANGE = {
        Integer.MIN_VALUE, Integer.MIN_VALUE + 1, -65536, -1000000, -256, -1, 8, 41, 101, 121, 256, 1000, 65536, 1000000,
        Integer.MAX_VALUE - 1, Integer.MAX_VALUE};
    /** How far the numbers of each call go, least and most in turn. */
    private static final Map<String, int[]> REACH = new HashMap<>();

    static {
        REACH.put("row", new int[] {0, 7, 0, 2, 0, 40});
        REACH.put("set", new int[] {0, 7, 0, 39, -300, 300});
        REACH.put("copy", new int[] {0, 7, 0, 12, 0, 7, 0, 12, 0, 12});
        REACH.put("drop", new int[] {0, 7});
        REACH.put("feed", new int[] {0, 255});
        REACH.put("days", new int[] {1, 24});
        REACH.put("offer", new int[] {0, 7, 0, 20});
        REACH.put("door", new int[] {0, 7, 0, 1});
        REACH.put("village", new int[] {0, 7, 0, 5});
        REACH.put("walker", new int[] {0, 2, 0, 2});
        REACH.put("ahead", new int[] {0, 2, 0, 100, 0, 1});
        REACH.put("cold", new int[] {0, 100, 0, 2});
        REACH.put("nights", new int[] {0, 7, 0, 100});
        REACH.put("freezes", new int[] {0, 7, 1, 100});
        REACH.put("warn", new int[] {-1, 7});
        REACH.put("lure", new int[] {0, 7, 1, 100});
        REACH.put("keepsAway", new int[] {0, 7, 1, 100, 0, 1});
        REACH.put("bid", new int[] {0, 7, 1, 50, 0, 1});
        REACH.put("rests", new int[] {1, 50});
        REACH.put("fits", new int[] {0, 2, 0, 7, 0, 16, 1, 24});
        REACH.put("round", new int[] {0, 2});
        REACH.put("meet", new int[] {1, 100, 0, 1});
        REACH.put("slept", new int[] {0, 2, 0, 7, 0, 28, 1, 12, 0, 1});
        REACH.put("late", new int[] {0, 2, 0, 10, 0, 6, 0, 7, 0, 1});
        REACH.put("year", new int[] {0, 100, 1, 999999, 0, 1});
        REACH.put("image", new int[] {0, 1});
        REACH.put("restore", new int[] {0, 1});
        REACH.put("kind", new int[] {0, 2});
        REACH.put("as", new int[] {0, 2, 0, 5});
        REACH.put("ask", new int[] {0, 2, 0, 1});
        REACH.put("trace", new int[] {0, 6});
        REACH.put("count", new int[] {0, 8});
        for (String bare : new String[] {"land", "fault", "undo", "status"}) {
            REACH.put(bare, new int[0]);
        }
    }

    private static final Map<String, Method> METHODS = new HashMap<>();
    private static final Map<String, Integer> UNREFUSED = new HashMap<>();

    private final WinterWalk x = new WinterWalk();
    private final SecondWriting second = new SecondWriting();
    private final Random random;
    private final String run;
    private int left = MOST_CALLS;

    private LongRunsTest(int seed) {
        random = new Random(seed);
        run = "run " + seed + ": ";
    }

    public static void main(String[] args) throws ReflectiveOperationException {
        for (String name : REACH.keySet()) {
            Class<?>[] ints = new Class<?>[REACH.get(name).length / 2];
            Arrays.fill(ints, int.class);
            METHODS.put(name, WinterWalk.class.getMethod(name, ints));
        }
        for (int seed = 1; seed <= RUNS; seed++) {
            new LongRunsTest(seed).go();
        }
        for (String name : REACH.keySet()) {
            Due.due(name + " was seldom answered", UNREFUSED.getOrDefault(name, 0) < 100 ? 1 : 0, 0);
        }
        Due.end("LongRunsTest");
    }

    private void go() throws ReflectiveOperationException {
        String[] names = REACH.keySet().stream().sorted(Comparator.naturalOrder()).toArray(String[]::new);
        tell();
        while (left > 0) {
            switch (random.nextInt(30)) {
                case 0: tellAtTimes(); break;
                case 1: layNights(); break;
                case 2: layFrost(); break;
                case 3: call("days", 1 + random.nextInt(24)); break;
                default: anything(names[random.nextInt(names.length)]); break;
            }
        }
    }

    private void call(String name, int... given) throws ReflectiveOperationException {
        if (left == 0) {
            return;
        }
        left--;
        Object[] numbers = Arrays.stream(given).boxed().toArray();
        String call = run + name + Arrays.toString(given);
        long due = second.call(name, given);
        try {
            Due.due(call, ((Number) METHODS.get(name).invoke(x, numbers)).longValue(), due);
        } catch (InvocationTargetException e) {
            Due.same(call, "threw " + e.getCause(), "" + due);
        }
        boolean isRefused = Due.STORE <= due && due <= Due.BAD;
        UNREFUSED.merge(name, isRefused ? 0 : 1, Integer::sum);
    }

    private void anything(String name) throws ReflectiveOperationException {
        // the tape is told at other times; a byte too many would spoil it
        if ((name.equals("feed") || name.equals("land")) && random.nextInt(4) != 0) {
            return;
        }
        int[] reach = REACH.get(name);
        int[] given = new int[reach.length / 2];
        for (int i = 0; i < given.length; i++) {
            given[i] = number(reach[2 * i], reach[2 * i + 1]);
        }
        call(name, given);
    }

    private int number(int least, int most) {
        switch (random.nextInt(24)) {
            case 0: return STRANGE[random.nextInt(STRANGE.length)];
            case 1: return least - 1;
            case 2: return most + 1;
            case 3: case 4: return least;
            case 5: case 6: return most;
            default: return least + random.nextInt(Math.min(most - least + 1, random.nextBoolean() ? 5 : 1000000));
        }
    }

    private void tellAtTimes() throws ReflectiveOperationException {
        if (random.nextInt(5) == 0) {
            tell();
        }
    }

    private void tell() throws ReflectiveOperationException {
        String text = anyLand();
        if (random.nextInt(6) == 0) {
            int place = random.nextInt(text.length());
            text = text.substring(0, place) + (char) random.nextInt(128) + text.substring(place + 1);
        }
        for (char sign : text.toCharArray()) {
            call("feed", sign);
        }
        call("land");
        call("fault");
    }

    /** At times with more of something than there is room for, on THE TAPE, too. */
    private String anyLand() {
        StringBuilder text = new StringBuilder("f" + (1 + random.nextInt(9)) + ";");
        int tooMany = random.nextInt(30);
        int villages = tooMany == 0 ? 9 : tooMany == 1 ? 8 : 1 + random.nextInt(8);
        for (int v = 0; v < villages; v++) {
            text.append(random.nextBoolean() ? 'g' : 'c').append(random.nextInt(10)).append(',');
            text.append(random.nextInt(random.nextBoolean() ? 5 : 21)).append(';');
        }
        addRoads(text, villages, tooMany == 1 ? 13 : random.nextInt(13));
        int walkers = tooMany == 2 ? 4 : random.nextInt(8) == 0 ? 0 : 1 + random.nextInt(3);
        for (int w = 0; w < walkers; w++) {
            text.append("oslte".charAt(random.nextInt(5))).append(random.nextInt(villages)).append(';');
        }
        return text.toString();
    }

    private void addRoads(StringBuilder text, int villages, int most) {
        boolean[] joined = new boolean[81];
        for (int i = 0, many = 0; i < 40 && many < most; i++) {
            int a = random.nextInt(villages);
            int b = random.nextInt(villages);
            if (a != b && !joined[a * 9 + b]) {
                joined[a * 9 + b] = true;
                joined[b * 9 + a] = true;
                text.append('r').append(a).append(',').append(b).append(';');
                many++;
            }
        }
    }

    /** A ROW of where one would sleep, were it of some KIND, mostly right; then FITS. */
    private void layNights() throws ReflectiveOperationException {
        PlainLand then = second.land();
        if (then == null || then.at.length == 0) {
            return;
        }
        int w = random.nextInt(then.at.length);
        then.sorts[w] = PlainLand.SORTS.charAt(1 + random.nextInt(5));
        int n = 1 + random.nextInt(8);
        int row = random.nextInt(8);
        int from = random.nextInt(5);
        int lane = random.nextInt(3);
        call("row", row, lane, from + n + random.nextInt(2));
        for (int d = 0; d < n; d++) {
            then.aDay();
            call("set", row, from + d, random.nextInt(40) == 0 ? 3 : then.at[w]);
        }
        call("fits", w, row, from, n);
        call("fits", random.nextInt(3), row, from, 1 + random.nextInt(n));
        copyOn(w, row, lane, from, n);
    }

    /** The ITEMS carried to another ROW, or to other places of their own; then FITS. */
    private void copyOn(int w, int row, int lane, int from, int n) throws ReflectiveOperationException {
        int other = random.nextInt(8);
        if (other != row) {
            call("row", other, random.nextInt(4) == 0 ? random.nextInt(3) : lane, random.nextInt(16));
        }
        int to = random.nextInt(5);
        call("copy", row, from, other, to, n);
        call("fits", w, other, to, n);
        call("fits", w, row, from, n);
    }

    /** A ROW of what one alone would freeze from some VILLAGE on, mostly right; then SLEPT. */
    private void layFrost() throws ReflectiveOperationException {
        PlainLand land = second.land();
        if (land == null || land.at.length == 0) {
            return;
        }
        int w = random.nextInt(land.at.length);
        PlainLand then = land.withOnly(w).setOutFrom(random.nextInt(land.worth.length));
        int n = 1 + random.nextInt(random.nextBoolean() ? 3 : 12);
        int row = random.nextInt(8);
        int from = random.nextInt(5);
        call("row", row, random.nextInt(3), from + n + random.nextInt(2));
        for (int d = 0; d < n; d++) {
            then.aDay();
            call("set", row, from + d, random.nextInt(40) == 0 ? 3 : then.frozen());
        }
        call("slept", w, row, from, n, 0);
        call("slept", w, row, from, n, 1);
    }
}
