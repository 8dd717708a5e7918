import java.util.ArrayList;
import java.util.List;
import java.util.Random;

/**
 * Promises 10, 13 to 19, 25, 26 and 29 on LANDS by the dozen, against the words of
 * the document written down a second time, FROST counted down DAY by DAY as they say.
 */
public final class PlainModelTest {
    private static final String SORTS = "?oslte";

    public static void main(String[] args) {
        for (int seed = 1; seed <= 300; seed++) {
            Random random = new Random(seed);
            Lore lore = anyLore(random);
            WinterWalk x = Due.told(lore.text());
            for (int step = 0; step < 5; step++) {
                doSomething(x, lore, random);
                hold(x, lore, "land " + seed + " step " + step);
            }
            holdAhead(x, lore, random, "land " + seed);
        }
        Due.end("PlainModelTest");
    }

    private static Lore anyLore(Random random) {
        Lore lore = new Lore();
        lore.lasts = 1 + random.nextInt(9);
        int villages = 1 + random.nextInt(8);
        for (int v = 0; v < villages; v++) {
            lore.worth.add(random.nextInt(19) - 9);
            lore.offer.add(random.nextInt(random.nextBoolean() ? 4 : 10));
            lore.shut.add(false);
            lore.frost.add(0);
            lore.nights.add(0);
        }
        for (int i = 0; i < 12 && lore.roads.size() < 12; i++) {
            int a = random.nextInt(villages);
            int b = random.nextInt(villages);
            if (a != b && !lore.joined(a, b)) {
                lore.roads.add(new int[] {a, b});
            }
        }
        int walkers = random.nextInt(4);
        for (int w = 0; w < walkers; w++) {
            lore.kind.add(1 + random.nextInt(5));
            lore.at.add(random.nextInt(villages));
            lore.before.add(null);
        }
        return lore;
    }

    private static void doSomething(WinterWalk x, Lore lore, Random random) {
        int v = random.nextInt(lore.worth.size());
        switch (random.nextInt(3)) {
            case 0 -> {
                x.door(v, lore.shut.get(v) ? 0 : 1);
                lore.shut.set(v, !lore.shut.get(v));
            }
            case 1 -> {
                int offer = random.nextInt(21);
                x.offer(v, offer);
                lore.offer.set(v, offer);
            }
            default -> {
                int n = 1 + random.nextInt(5);
                x.days(n);
                for (int d = 0; d < n; d++) {
                    lore.day();
                }
            }
        }
    }

    private static void hold(WinterWalk x, Lore lore, String where) {
        Due.due(where + " DAY", x.count(4), lore.days);
        Due.due(where + " GAIN", x.count(5), lore.gain);
        Due.due(where + " PAID", x.count(6), lore.paid);
        for (int v = 0; v < lore.worth.size(); v++) {
            Due.due(where + " FROST " + v, x.village(v, 3), lore.frost.get(v));
            Due.due(where + " NIGHTS " + v, x.village(v, 4), lore.nights.get(v));
        }
        for (int w = 0; w < lore.at.size(); w++) {
            Due.due(where + " at " + w, x.walker(w, 0), lore.at.get(w));
            Due.due(where + " before " + w, x.walker(w, 1), orNone(lore.before.get(w)));
            Due.due(where + " goes " + w, x.walker(w, 2), lore.goesTo(w));
        }
    }

    private static void holdAhead(WinterWalk x, Lore lore, Random random, String where) {
        holdYear(x, lore.copy(), 1 + random.nextInt(40), 1 + random.nextInt(999999), where);
        Lore then = lore.copy();
        int villages = lore.worth.size();
        int walkers = lore.at.size();
        int far = random.nextInt(101);
        int[] first = new int[villages];
        List<Integer> warned = new ArrayList<>();
        int[] round = new int[walkers];
        int meets = -1;
        int meetsAt = -1;
        for (int d = 0; d < 200; d++) {
            if (d == far) {
                holdThen(x, then, far, where);
            }
            then.day();
            for (int v = 0; v < villages; v++) {
                if (then.frost.get(v) > 0 && d < 100 && !warned.contains(v)) {
                    warned.add(v);
                    first[v] = d;
                }
            }
            for (int w = 0; w < walkers && d >= 100; w++) {
                round[w] |= 1 << then.at.get(w);
            }
            if (meets < 0 && d < 100 && then.meeting() >= 0) {
                meets = d;
                meetsAt = then.meeting();
            }
        }
        Due.due(where + " warn(-1)", x.warn(-1), warned.size());
        for (int k = 0; k < warned.size(); k++) {
            Due.due(where + " warn " + k, x.warn(k), warned.get(k));
        }
        for (int v = 0; v < villages; v++) {
            boolean freezes = warned.contains(v);
            Due.due(where + " freezes " + v, x.freezes(v, 100), freezes ? first[v] : Due.NONE);
            if (freezes && first[v] > 0) {
                Due.due(where + " freezes not yet " + v, x.freezes(v, first[v]), Due.NONE);
            }
        }
        for (int w = 0; w < walkers; w++) {
            Due.due(where + " round " + w, x.round(w), round[w]);
        }
        Due.due(where + " meet when", x.meet(100, 0), meets < 0 ? Due.NONE : meets);
        Due.due(where + " meet where", x.meet(100, 1), meets < 0 ? Due.NONE : meetsAt);
    }

    private static void holdThen(WinterWalk x, Lore then, int n, String where) {
        Due.due(where + " cold 0 in " + n, x.cold(n, 0), then.gain);
        Due.due(where + " cold 1 in " + n, x.cold(n, 1), then.paid);
        Due.due(where + " cold 2 in " + n, x.cold(n, 2), then.frozen());
        for (int v = 0; v < then.worth.size(); v++) {
            Due.due(where + " nights in " + n, x.nights(v, n), then.nights.get(v));
        }
        for (int w = 0; w < then.at.size(); w++) {
            Due.due(where + " ahead in " + n, x.ahead(w, n, 0), then.at.get(w));
            Due.due(where + " before in " + n, x.ahead(w, n, 1), orNone(then.before.get(w)));
        }
    }

    private static void holdYear(WinterWalk x, Lore then, int n, int seed, String where) {
        long drawn = seed;
        int gain = then.gain;
        for (int d = 0; d < n; d++) {
            drawn = drawn * 16807 % 2147483647;
            int v = (int) (drawn % then.worth.size());
            then.shut.set(v, !then.shut.get(v));
            then.day();
            then.shut.set(v, !then.shut.get(v));
        }
        int most = 0;
        for (int v = 0; v < then.worth.size(); v++) {
            if (then.nights.get(v) > then.nights.get(most)) {
                most = v;
            }
        }
        Due.due(where + " year's GAIN", x.year(n, seed, 0), then.gain - gain);
        Due.due(where + " year's VILLAGE", x.year(n, seed, 1), most);
    }

    private static int orNone(Integer village) {
        return village == null ? Due.NONE : village;
    }

    /** The LAND as the words tell it. */
    private static final class Lore {
        int lasts;
        int days;
        int gain;
        int paid;
        List<Integer> worth = new ArrayList<>();
        List<Integer> offer = new ArrayList<>();
        List<Boolean> shut = new ArrayList<>();
        List<Integer> frost = new ArrayList<>();
        List<Integer> nights = new ArrayList<>();
        List<int[]> roads = new ArrayList<>();
        List<Integer> kind = new ArrayList<>();
        List<Integer> at = new ArrayList<>();
        List<Integer> before = new ArrayList<>();

        Lore copy() {
            Lore other = new Lore();
            other.lasts = lasts;
            other.days = days;
            other.gain = gain;
            other.paid = paid;
            other.worth.addAll(worth);
            other.offer.addAll(offer);
            other.shut.addAll(shut);
            other.frost.addAll(frost);
            other.nights.addAll(nights);
            other.roads.addAll(roads);
            other.kind.addAll(kind);
            other.at.addAll(at);
            other.before.addAll(before);
            return other;
        }

        String text() {
            StringBuilder text = new StringBuilder("f" + lasts + ";");
            for (int v = 0; v < worth.size(); v++) {
                text.append(worth.get(v) < 0 ? "c" : "g").append(Math.abs(worth.get(v)));
                text.append(',').append(offer.get(v)).append(';');
            }
            for (int[] road : roads) {
                text.append('r').append(road[0]).append(',').append(road[1]).append(';');
            }
            for (int w = 0; w < kind.size(); w++) {
                text.append(SORTS.charAt(kind.get(w))).append(at.get(w)).append(';');
            }
            return text.toString();
        }

        boolean joined(int a, int b) {
            return roads.stream().anyMatch(r -> r[0] == a && r[1] == b || r[0] == b && r[1] == a);
        }

        List<Integer> open(int from) {
            List<Integer> open = new ArrayList<>();
            for (int v = 0; v < worth.size(); v++) {
                if (joined(from, v) && !shut.get(v)) {
                    open.add(v);
                }
            }
            return open;
        }

        int greatest(List<Integer> open, int here) {
            return open.stream().reduce((a, b) -> offer.get(b) > offer.get(a) ? b : a).orElse(here);
        }

        int fewest(int here) {
            return open(here).stream().reduce((a, b) -> nights.get(b) < nights.get(a) ? b : a).orElse(here);
        }

        int goesTo(int w) {
            int here = at.get(w);
            List<Integer> open = open(here);
            switch (kind.get(w)) {
                case 2:
                    return days % 3 == 2 ? here : greatest(open, here);
                case 3:
                    if (open.size() > 1) {
                        open.remove(before.get(w));
                    }
                    return greatest(open, here);
                case 4:
                    return fewest(here);
                case 5:
                    return fewest(fewest(here));
                default:
                    return greatest(open, here);
            }
        }

        void day() {
            frost.replaceAll(f -> f > 0 ? f - 1 : 0);
            for (int w = 0; w < at.size(); w++) {
                int to = goesTo(w);
                before.set(w, at.get(w));
                at.set(w, to);
                nights.set(to, nights.get(to) + 1);
                frost.set(to, lasts);
                for (int v = 0; v < worth.size(); v++) {
                    if (joined(to, v)) {
                        frost.set(v, Math.max(1, frost.get(v)));
                    }
                }
                gain += worth.get(to);
                paid += kind.get(w) <= 3 ? offer.get(to) : 0;
            }
            days++;
        }

        int frozen() {
            int bits = 0;
            for (int v = 0; v < frost.size(); v++) {
                bits |= frost.get(v) > 0 ? 1 << v : 0;
            }
            return bits;
        }

        int meeting() {
            for (int v = 0; v < worth.size(); v++) {
                int place = v;
                if (at.stream().filter(a -> a == place).count() > 1) {
                    return v;
                }
            }
            return -1;
        }
    }
}
