import java.util.Random;

/**
 * Promises 20 to 24, 27 and 28 on LANDS by the dozen: what is foretold is done, on
 * an object made for it alone, and what comes then is what is due.
 */
public final class ForetoldByDoingTest {
    public static void main(String[] args) {
        for (int seed = 1; seed <= 120; seed++) {
            Random random = new Random(seed);
            Case one = new Case(random);
            WinterWalk x = one.fresh();
            int n = 1 + random.nextInt(20);
            int village = random.nextInt(one.villages);
            String where = "land " + seed + " village " + village + " n " + n;
            Due.due(where + " lure", x.lure(village, n), lure(one, village, n));
            holdDoors(one, x, village, n, where);
            holdBids(one, x, n, where);
            int walker = random.nextInt(one.walkers);
            holdFits(one, x, walker, random, where);
            holdSlept(one, x, walker, random, where);
            holdLate(one, x, walker, random, where);
        }
        Due.end("ForetoldByDoingTest");
    }

    private static boolean comes(WinterWalk x, int village, int n) {
        int ahead = x.village(village, 4);
        x.days(n);
        return x.village(village, 4) > ahead;
    }

    private static int lure(Case one, int village, int n) {
        for (int v = 0; v <= 20; v++) {
            WinterWalk x = one.fresh();
            x.offer(village, v);
            if (comes(x, village, n)) {
                return v;
            }
        }
        return Due.NONE;
    }

    private static void holdDoors(Case one, WinterWalk x, int village, int n, String where) {
        int best = Due.NONE;
        for (int doors = (1 << one.villages) - 1; doors >= 0; doors--) {
            int many = Integer.bitCount(doors);
            if (many <= 3 && (best == Due.NONE || many <= Integer.bitCount(best))
                    && shuts(one, doors, village, n)) {
                best = doors;
            }
        }
        int many = best == Due.NONE ? Due.NONE : Integer.bitCount(best);
        Due.due(where + " keepsAway, how many", x.keepsAway(village, n, 0), many);
        Due.due(where + " keepsAway, which", x.keepsAway(village, n, 1), best);
    }

    private static boolean shuts(Case one, int doors, int village, int n) {
        WinterWalk x = one.fresh();
        for (int v = 0; v < one.villages; v++) {
            if ((doors >> v & 1) == 1 && x.door(v, 1) == Due.STATE) {
                return false;
            }
        }
        return !comes(x, village, n);
    }

    private static int has(Case one, int village, int offer, int n) {
        WinterWalk x = one.fresh();
        x.offer(village, offer);
        int sum = 0;
        for (int d = 0; d < n; d++) {
            x.days(1);
            for (int w = 0; w < one.walkers; w++) {
                if (x.walker(w, 0) == village) {
                    sum += x.village(village, 0) - (x.kind(w) <= 3 ? offer : 0);
                }
            }
        }
        return sum;
    }

    private static void holdBids(Case one, WinterWalk x, int n, String where) {
        int restless = 0;
        for (int village = 0; village < one.villages; village++) {
            int best = 0;
            int much = has(one, village, 0, n);
            for (int v = 1; v <= 20; v++) {
                int has = has(one, village, v, n);
                if (has > much) {
                    best = v;
                    much = has;
                }
            }
            Due.due(where + " bid of " + village, x.bid(village, n, 0), best);
            Due.due(where + " bid, how much, of " + village, x.bid(village, n, 1), much);
            if (much > has(one, village, x.village(village, 1), n)) {
                restless |= 1 << village;
            }
        }
        Due.due(where + " rests", x.rests(n), restless);
    }

    private static void holdFits(Case one, WinterWalk x, int walker, Random random, String where) {
        int n = 1 + random.nextInt(6);
        int told = 1 + random.nextInt(5);
        int[] nights = one.nightsAs(walker, told, n);
        if (nights == null) {
            return;
        }
        int kinds = 0;
        for (int kind = 1; kind <= 5; kind++) {
            int[] others = one.nightsAs(walker, kind, n);
            if (java.util.Arrays.equals(nights, others)) {
                kinds |= 1 << kind;
            }
        }
        Due.lay(x, 0, random.nextInt(3), nights);
        Due.due(where + " fits", x.fits(walker, 0, 0, n), kinds);
    }

    private static void holdSlept(Case one, WinterWalk x, int walker, Random random, String where) {
        if (!one.isUntouched()) {
            return;
        }
        int n = 1 + random.nextInt(12);
        int from = random.nextInt(one.villages);
        int[] frozen = one.frozenAlone(walker, from, n);
        int many = 0;
        int first = Due.NONE;
        for (int v = one.villages - 1; v >= 0; v--) {
            if (java.util.Arrays.equals(frozen, one.frozenAlone(walker, v, n))) {
                many++;
                first = v;
            }
        }
        Due.lay(x, 1, 1, frozen);
        Due.due(where + " slept, how many", x.slept(walker, 1, 0, n, 0), many);
        Due.due(where + " slept, the first", x.slept(walker, 1, 0, n, 1), first);
    }

    // only how many DAYS it went counts; the cases are gone through one by one
    private static void holdLate(Case one, WinterWalk x, int walker, Random random, String where) {
        if (!one.isUntouched()) {
            return;
        }
        int n = random.nextInt(7);
        int p = random.nextInt(11);
        long all = 0;
        double sum = 0;
        for (int village = 0; village < one.villages; village++) {
            long cases = 0;
            for (int went = 0; went < 1 << n; went++) {
                int gone = Integer.bitCount(went);
                if (one.alone(walker, one.at[walker]).ahead(0, gone, 0) == village) {
                    cases += Math.round(Math.pow(p, gone) * Math.pow(10 - p, n - gone));
                }
            }
            all += cases;
            long above = x.late(walker, p, n, village, 0);
            long below = x.late(walker, p, n, village, 1);
            Due.due(where + " late, as a fraction", above * Math.round(Math.pow(10, n)), cases * below);
            Due.due(where + " late, in lowest terms", shared(above, below), 1);
            sum += (double) above / below;
        }
        Due.due(where + " all cases", all, Math.round(Math.pow(10, n)));
        Due.due(where + " late somewhere", Math.round(sum * 1000000), 1000000);
    }

    private static long shared(long a, long b) {
        return b == 0 ? a : shared(b, a % b);
    }

    /** A LAND that can be told anew, with what was done in it. */
    private static final class Case {
        final int villages;
        final int walkers;
        final int[] at;
        private final String ways;
        private final char[] sorts;
        private final int days;
        private final int shut;

        Case(Random random) {
            villages = 1 + random.nextInt(6);
            StringBuilder text = new StringBuilder("f" + (1 + random.nextInt(4)) + ";");
            for (int v = 0; v < villages; v++) {
                text.append(random.nextInt(3) == 0 ? 'c' : 'g').append(random.nextInt(10));
                text.append(',').append(random.nextInt(10)).append(';');
            }
            int roads = 0;
            for (int a = 0; a < villages; a++) {
                for (int b = a + 1; b < villages; b++) {
                    if (roads < 10 && random.nextInt(5) < 3) {
                        text.append('r').append(a).append(',').append(b).append(';');
                        roads++;
                    }
                }
            }
            ways = text.toString();
            walkers = 1 + random.nextInt(3);
            at = new int[walkers];
            sorts = new char[walkers];
            for (int w = 0; w < walkers; w++) {
                at[w] = random.nextInt(villages);
                sorts[w] = "oslte".charAt(random.nextInt(5));
            }
            days = random.nextInt(3) == 0 ? 0 : random.nextInt(10);
            shut = random.nextInt(3) == 0 ? random.nextInt(villages) : -1;
        }

        boolean isUntouched() {
            return days == 0;
        }

        private WinterWalk shutIn(WinterWalk x) {
            if (shut >= 0) {
                x.door(shut, 1);
            }
            return x;
        }

        WinterWalk fresh() {
            StringBuilder text = new StringBuilder(ways);
            for (int w = 0; w < walkers; w++) {
                text.append(sorts[w]).append(at[w]).append(';');
            }
            WinterWalk x = Due.told(text.toString());
            if (days > 0) {
                x.days(days);
            }
            return shutIn(x);
        }

        WinterWalk alone(int walker, int from) {
            return shutIn(Due.told(ways + sorts[walker] + from + ";"));
        }

        /** Where a WALKER would sleep, were it of a KIND; null where that can't be told anew. */
        int[] nightsAs(int walker, int kind, int n) {
            if (!isUntouched()) {
                return null;
            }
            char was = sorts[walker];
            sorts[walker] = "?oslte".charAt(kind);
            WinterWalk x = fresh();
            sorts[walker] = was;
            int[] nights = new int[n];
            for (int d = 0; d < n; d++) {
                x.days(1);
                nights[d] = x.walker(walker, 0);
            }
            return nights;
        }

        int[] frozenAlone(int walker, int from, int n) {
            WinterWalk x = alone(walker, from);
            int[] frozen = new int[n];
            for (int d = 0; d < n; d++) {
                x.days(1);
                frozen[d] = x.cold(0, 2);
            }
            return frozen;
        }
    }
}
