import java.lang.reflect.InvocationTargetException;
import java.lang.reflect.Method;
import java.lang.reflect.Modifier;
import java.util.Arrays;
import java.util.Comparator;
import java.util.Random;

/**
 * All promises: what each call refuses, and in which order where several refusals
 * fit, written down a second time and held against calls with any numbers.
 */
public final class RefusalRulesTest {
    private static final int[] EDGES = {
        Integer.MIN_VALUE, Integer.MIN_VALUE + 1, -1000000, -129, -128, -2, -1, 0, 1, 2, 3, 4, 5, 6, 7, 8, 9, 10, 11,
        12, 13, 20, 21, 24, 25, 39, 40, 41, 50, 51, 99, 100, 101, 120, 121, 255, 256, 999, 999999, 1000000,
        Integer.MAX_VALUE - 1, Integer.MAX_VALUE};
    private static final int TAKEN = 0;

    /** What there is in a world, as far as refusals go by it. */
    private record Facts(int villages, int walkers, int rows, int items, boolean image0, boolean image1) {
        boolean village(int v) {
            return v >= 0 && v < villages;
        }

        boolean walker(int w) {
            return w >= 0 && w < walkers;
        }

        boolean isMissing(int row) {
            return row >= rows;
        }

        int size(int row) {
            return villages == 5 && row == 3 ? 0 : items;
        }

        int lane(int row) {
            return villages == 5 && row == 3 ? 0 : row % 3;
        }
    }

    public static void main(String[] args) throws IllegalAccessException {
        tryAll("none", Worlds::none, new Facts(0, 0, 0, 0, false, false));
        tryAll("still", Worlds::still, new Facts(3, 0, 0, 0, false, false));
        tryAll("alone", Worlds::alone, new Facts(1, 1, 0, 0, false, false));
        tryAll("busy", Worlds::busy, new Facts(5, 3, 4, 6, true, false));
        tryAll("full", Worlds::full, new Facts(8, 3, 8, 40, true, true));
        Due.end("RefusalRulesTest");
    }

    private static void tryAll(String name, Edge.World world, Facts facts) throws IllegalAccessException {
        Random random = new Random(facts.villages);
        Method[] methods = WinterWalk.class.getDeclaredMethods();
        Arrays.sort(methods, Comparator.comparing(Method::getName));
        for (Method method : methods) {
            if (Modifier.isPublic(method.getModifiers())) {
                int times = 1 + 150 * method.getParameterCount();
                for (int i = 0; i < times; i++) {
                    tryOne(name, world.anew(), facts, method, random);
                }
            }
        }
    }

    private static void tryOne(String name, WinterWalk x, Facts facts, Method method, Random random)
            throws IllegalAccessException {
        int[] given = new int[method.getParameterCount()];
        for (int i = 0; i < given.length; i++) {
            given[i] = random.nextInt(3) == 0 ? EDGES[random.nextInt(EDGES.length)] : random.nextInt(6);
        }
        String call = name + ": " + method.getName() + Arrays.toString(given);
        int due = refusal(method.getName(), given, x, facts);
        try {
            Object[] boxed = Arrays.stream(given).boxed().toArray();
            long answer = ((Number) method.invoke(x, boxed)).longValue();
            boolean isRefusal = Due.STORE <= answer && answer <= Due.BAD;
            Due.due(call, isRefusal ? answer : TAKEN, due);
        } catch (InvocationTargetException e) {
            Due.same(call, "threw " + e.getCause(), "an answer");
        }
    }

    private static boolean isIn(int v, int least, int most) {
        return least <= v && v <= most;
    }

    private static int bad(boolean... holds) {
        for (boolean one : holds) {
            if (!one) {
                return Due.BAD;
            }
        }
        return TAKEN;
    }

    /** What comes ahead, else what comes then. */
    private static int orElse(int ahead, int then) {
        return ahead != TAKEN ? ahead : then;
    }

    private static int refusal(String name, int[] g, WinterWalk x, Facts f) {
        int noLand = f.villages == 0 ? Due.STATE : TAKEN;
        switch (name) {
            case "row": return orElse(bad(isIn(g[0], 0, 7), isIn(g[1], 0, 2), g[2] <= 40), g[2] < 0 ? Due.SIZE : TAKEN);
            case "set": return orElse(bad(isIn(g[0], 0, 7)), place(f, g[0], g[1], 1));
            case "copy": return orElse(bad(isIn(g[0], 0, 7), isIn(g[2], 0, 7)), copying(f, g));
            case "drop": return orElse(bad(isIn(g[0], 0, 7)), f.isMissing(g[0]) ? Due.NULL : TAKEN);
            case "feed": return orElse(bad(isIn(g[0], 0, 255)), x.count(8) == 120 ? Due.FULL : TAKEN);
            case "undo": return x.count(7) == 0 ? Due.STATE : TAKEN;
            case "days": return orElse(noLand, orElse(bad(isIn(g[0], 1, 24)), tooManyDays(x, g[0])));
            case "offer": return bad(f.village(g[0]), isIn(g[1], 0, 20));
            case "door": return orElse(bad(f.village(g[0]), isIn(g[1], 0, 1)), isSo(x, g[0], g[1]));
            case "village": return bad(f.village(g[0]), isIn(g[1], 0, 5));
            case "walker": return bad(f.walker(g[0]), isIn(g[1], 0, 2));
            case "kind": case "round": return bad(f.walker(g[0]));
            case "as": return orElse(bad(f.walker(g[0]), isIn(g[1], 0, 5)), isOf(x, g[0], g[1]) ? TAKEN : Due.KIND);
            case "ask": return bad(f.walker(g[0]), isIn(g[1], 0, 1));
            case "count": return bad(isIn(g[0], 0, 8));
            case "image": return orElse(bad(isIn(g[0], 0, 1)), noLand);
            case "restore": return orElse(bad(isIn(g[0], 0, 1)), (g[0] == 0 ? f.image0 : f.image1) ? TAKEN : Due.STATE);
            case "land": case "fault": case "trace": case "status": return TAKEN;
            default: return foretelling(name, g, f, noLand);
        }
    }

    private static int foretelling(String name, int[] g, Facts f, int noLand) {
        switch (name) {
            case "ahead": return bad(f.walker(g[0]), isIn(g[1], 0, 100), isIn(g[2], 0, 1));
            case "cold": return orElse(noLand, bad(isIn(g[0], 0, 100), isIn(g[1], 0, 2)));
            case "nights": return bad(f.village(g[0]), isIn(g[1], 0, 100));
            case "freezes": case "lure": return bad(f.village(g[0]), isIn(g[1], 1, 100));
            case "warn": return orElse(noLand, bad(isIn(g[0], -1, 7)));
            case "keepsAway": return bad(f.village(g[0]), isIn(g[1], 1, 100), isIn(g[2], 0, 1));
            case "bid": return bad(f.village(g[0]), isIn(g[1], 1, 50), isIn(g[2], 0, 1));
            case "rests": return orElse(noLand, bad(isIn(g[0], 1, 50)));
            case "meet": return orElse(noLand, bad(isIn(g[0], 1, 100), isIn(g[1], 0, 1)));
            case "fits":
                return orElse(bad(f.walker(g[0]), isIn(g[1], 0, 7), isIn(g[3], 1, 24)), place(f, g[1], g[2], g[3]));
            case "slept":
                return orElse(bad(f.walker(g[0]), isIn(g[1], 0, 7), isIn(g[3], 1, 12), isIn(g[4], 0, 1)),
                    place(f, g[1], g[2], g[3]));
            case "late":
                return bad(f.walker(g[0]), isIn(g[1], 0, 10), isIn(g[2], 0, 6), f.village(g[3]), isIn(g[4], 0, 1));
            case "year": return orElse(noLand, bad(isIn(g[0], 0, 100), isIn(g[1], 1, 999999), isIn(g[2], 0, 1)));
            default: throw new IllegalStateException("no rule for " + name);
        }
    }

    private static int place(Facts f, int row, int i, int n) {
        if (f.isMissing(row)) {
            return Due.NULL;
        }
        return i >= 0 && n >= 0 && (long) i + n <= f.size(row) ? TAKEN : Due.PLACE;
    }

    private static int copying(Facts f, int[] g) {
        if (f.isMissing(g[0]) || f.isMissing(g[2])) {
            return Due.NULL;
        }
        if (f.lane(g[0]) != f.lane(g[2])) {
            return Due.STORE;
        }
        return orElse(place(f, g[0], g[1], g[4]), place(f, g[2], g[3], g[4]));
    }

    private static int tooManyDays(WinterWalk x, int n) {
        return x.count(4) + n > 999 ? Due.FULL : TAKEN;
    }

    private static int isSo(WinterWalk x, int village, int shut) {
        return x.village(village, 2) == shut ? Due.STATE : TAKEN;
    }

    private static boolean isOf(WinterWalk x, int walker, int kind) {
        int told = x.kind(walker);
        return kind == 0 || kind == told || kind == 1 && (told == 2 || told == 3) || kind == 4 && told == 5;
    }
}
