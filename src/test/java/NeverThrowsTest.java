import java.lang.reflect.InvocationTargetException;
import java.lang.reflect.Method;
import java.lang.reflect.Modifier;
import java.util.Random;

/** No call throws, for any numbers in any state; refusals change nothing but status(). */
public final class NeverThrowsTest {
    private static final int[] EDGES = {
        Integer.MIN_VALUE, Integer.MIN_VALUE + 1, -1000001, -1000000, -2, -1, 0, 1, 2, 3, 4, 5, 6, 7, 8,
        9, 10, 11, 12, 13, 20, 21, 24, 25, 39, 40, 41, 50, 51, 99, 100, 101, 255, 256, 999999, 1000000,
        Integer.MAX_VALUE - 1, Integer.MAX_VALUE};
    private static final String[] TEXTS = {
        "", "f2;g3,4;", "f1;g1,2;c3,4;r0,1;o0;e1;s1;", "f9;g9,20;c9,0;g1,1;g1,1;r0,1;r1,2;r2,3;r0,3;l0;t1;e2;",
        "f1;g0,0;g0,0;g0,0;g0,0;g0,0;g0,0;g0,0;g0,0;r0,7;r1,7;r2,7;r3,7;r4,7;r5,7;r6,7;o0;s1;t7;", "f1;;", "f123"};

    public static void main(String[] args) throws IllegalAccessException {
        for (int seed = 0; seed < 400; seed++) {
            run(new Random(seed), "run " + seed);
        }
        Due.end("NeverThrowsTest");
    }

    private static void run(Random random, String name) throws IllegalAccessException {
        WinterWalk x = new WinterWalk();
        Method[] methods = WinterWalk.class.getDeclaredMethods();
        java.util.Arrays.sort(methods, java.util.Comparator.comparing(Method::getName));
        for (int i = 0; i < 120; i++) {
            if (random.nextInt(20) == 0) {
                Due.feedAll(x, TEXTS[random.nextInt(TEXTS.length)]);
                x.land();
            }
            Method method = methods[random.nextInt(methods.length)];
            if (Modifier.isPublic(method.getModifiers()) && !method.isSynthetic()) {
                call(x, method, random, name);
            }
        }
    }

    private static void call(WinterWalk x, Method method, Random random, String name)
            throws IllegalAccessException {
        Object[] given = new Object[method.getParameterCount()];
        StringBuilder told = new StringBuilder(name + ": " + method.getName());
        for (int i = 0; i < given.length; i++) {
            given[i] = random.nextInt(3) == 0 ? EDGES[random.nextInt(EDGES.length)] : random.nextInt(4);
            told.append(' ').append(given[i]);
        }
        String ahead = withoutStatus(Due.seen(x));
        try {
            long answer = ((Number) method.invoke(x, given)).longValue();
            boolean refused = answer <= Due.BAD && answer > -1000020;
            if (refused) {
                Due.same(told.toString(), withoutStatus(Due.seen(x)), ahead);
            }
        } catch (InvocationTargetException e) {
            Due.same(told.toString(), "threw " + e.getCause(), "an answer");
        }
    }

    private static String withoutStatus(String seen) {
        return seen.substring(0, seen.lastIndexOf(' '));
    }
}
