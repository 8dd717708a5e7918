import java.lang.reflect.InvocationTargetException;
import java.lang.reflect.Method;
import java.lang.reflect.Modifier;
import java.util.Arrays;
import java.util.Comparator;
import java.util.Random;

/**
 * All promises: no call throws, for any numbers in any state, and refusals change
 * nothing. Of two objects one is called with all, the other with all but what the
 * first refused: what both are called with they answer alike.
 */
public final class NeverThrowsTest {
    private static final int[] EDGES = {
        Integer.MIN_VALUE, Integer.MIN_VALUE + 1, -1000000, -2, -1, 0, 1, 2, 3, 4, 5, 6, 7, 8, 9, 10, 11, 12, 13, 20,
        21, 24, 25, 39, 40, 41, 50, 51, 99, 100, 101, 255, 256, 999999, 1000000, Integer.MAX_VALUE - 1,
        Integer.MAX_VALUE};
    private static final String[] TEXTS = {
        "", "f2;g3,4;", "f1;g1,2;c3,4;r0,1;o0;e1;s1;", "f9;g9,20;c9,0;g1,1;g1,1;r0,1;r1,2;r2,3;r0,3;l0;t1;e2;",
        "f1;g0,0;g0,0;g0,0;g0,0;g0,0;g0,0;g0,0;g0,0;r0,7;r1,7;r2,7;r3,7;r4,7;r5,7;r6,7;o0;s1;t7;", "f1;;", "f123"};
    private static final int MOST_CALLS = 512, CALLS_OF_A_TEXT = 121, CALLS_OF_A_LOOK = 70;

    private final WinterWalk all = new WinterWalk();
    private final WinterWalk allButRefused = new WinterWalk();
    private final Random random;
    private final String name;
    private int calls = 0;

    private NeverThrowsTest(int seed) {
        random = new Random(seed);
        name = "run " + seed;
    }

    public static void main(String[] args) throws IllegalAccessException {
        Method[] methods = Arrays.stream(WinterWalk.class.getDeclaredMethods())
            .filter(method -> Modifier.isPublic(method.getModifiers()))
            .sorted(Comparator.comparing(Method::getName))
            .toArray(Method[]::new);
        for (int seed = 0; seed < 600; seed++) {
            new NeverThrowsTest(seed).run(methods);
        }
        Due.end("NeverThrowsTest");
    }

    private void run(Method[] methods) throws IllegalAccessException {
        while (calls < MOST_CALLS - CALLS_OF_A_TEXT - CALLS_OF_A_LOOK) {
            if (random.nextInt(40) == 0) {
                tell(TEXTS[random.nextInt(TEXTS.length)]);
            }
            callBoth(methods[random.nextInt(methods.length)]);
        }
        Due.same(name + ": the LAND in the end", Due.landSeen(all), Due.landSeen(allButRefused));
    }

    private void tell(String text) {
        Due.feedAll(all, text);
        Due.feedAll(allButRefused, text);
        Due.due(name + ": land()", all.land(), allButRefused.land());
        calls += text.length() + 1;
    }

    private void callBoth(Method method) throws IllegalAccessException {
        Object[] given = new Object[method.getParameterCount()];
        for (int i = 0; i < given.length; i++) {
            given[i] = random.nextInt(3) == 0 ? EDGES[random.nextInt(EDGES.length)] : random.nextInt(4);
        }
        String call = name + ": " + method.getName() + Arrays.toString(given);
        calls++;
        try {
            long answer = ((Number) method.invoke(all, given)).longValue();
            boolean isRefused = Due.STORE <= answer && answer <= Due.BAD;
            // what was found only one of them knows
            if (!isRefused && !method.getName().equals("status")) {
                Due.due(call, answer, ((Number) method.invoke(allButRefused, given)).longValue());
            }
        } catch (InvocationTargetException e) {
            Due.same(call, "threw " + e.getCause(), "an answer");
        }
    }
}
