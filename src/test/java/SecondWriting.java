import java.math.BigInteger;
import java.util.ArrayDeque;
import java.util.ArrayList;
import java.util.Deque;
import java.util.List;
import java.util.Set;
import java.util.function.Predicate;

/**
 * The whole document written a second time, as plainly as it can be said: every call
 * by its name. Nothing is saved or shortened here: an ACT keeps a whole LAND, what is
 * foretold is walked on a copy, cases are all gone through one by one. Where the
 * document leaves a choice (NOTES.md) this makes the same one as the class, so it says
 * nothing on whether that was the right one.
 */
final class SecondWriting {
    private static final int NONE = -1000000, BAD = -1000001, STATE = -1000002, FULL = -1000003;
    private static final int NULL = 1, PLACE = 2, KIND = 3, SIZE = 4, STORE = 5;

    private record Row(int lane, int[] items) {
    }

    private final Row[] rows = new Row[8];
    private final StringBuilder tape = new StringBuilder();
    private final Deque<PlainLand> acts = new ArrayDeque<>();
    private final PlainLand[] images = new PlainLand[2];
    private final List<Integer> trace = new ArrayList<>();
    private PlainLand land = null;
    private int fault = 0;
    private int status = 0;

    PlainLand land() {
        return land == null ? null : land.copy();
    }

    long call(String name, int... a) {
        long told = told(name, a);
        boolean hasRow = Set.of("row", "set", "copy", "drop", "fits", "slept").contains(name);
        if ((hasRow || name.equals("as")) && told != BAD && told != STATE && told != FULL) {
            status = -1000015 <= told && told <= -1000011 ? (int) (-1000010 - told) : 0;
        }
        return told;
    }

    private long told(String name, int[] a) {
        switch (name) {
            case "row": return row(a[0], a[1], a[2]);
            case "set": return set(a[0], a[1], a[2]);
            case "copy": return copy(a[0], a[1], a[2], a[3], a[4]);
            case "drop": return drop(a[0]);
            case "feed": return feed(a[0]);
            case "land": return read();
            case "fault": return fault;
            case "undo": return undo();
            case "days": return days(a[0]);
            case "offer": return offer(a[0], a[1]);
            case "door": return door(a[0], a[1]);
            case "village": return village(a[0], a[1]);
            case "walker": return walker(a[0], a[1]);
            case "image": return image(a[0]);
            case "restore": return restore(a[0]);
            case "kind": return isWalker(a[0]) ? kindOf(a[0]) : BAD;
            case "as": return as(a[0], a[1]);
            case "ask": return ask(a[0], a[1]);
            case "trace": return a[0] >= 0 && a[0] < trace.size() ? trace.get(a[0]) : NONE;
            case "count": return count(a[0]);
            case "status": return status;
            default: return foretold(name, a);
        }
    }

    private long foretold(String name, int[] a) {
        switch (name) {
            case "ahead": return ahead(a[0], a[1], a[2]);
            case "cold": return cold(a[0], a[1]);
            case "nights": return isVillage(a[0]) && in(a[1], 0, 100) ? behind(a[1]).nights[a[0]] : BAD;
            case "freezes": return freezes(a[0], a[1]);
            case "warn": return warn(a[0]);
            case "lure": return lure(a[0], a[1]);
            case "keepsAway": return keepsAway(a[0], a[1], a[2]);
            case "bid": return bid(a[0], a[1], a[2]);
            case "rests": return rests(a[0]);
            case "fits": return fits(a[0], a[1], a[2], a[3]);
            case "round": return round(a[0]);
            case "meet": return meet(a[0], a[1]);
            case "slept": return slept(a[0], a[1], a[2], a[3], a[4]);
            case "late": return late(a[0], a[1], a[2], a[3], a[4]);
            case "year": return year(a[0], a[1], a[2]);
            default: throw new IllegalArgumentException(name);
        }
    }

    private static boolean in(int v, int least, int most) {
        return v >= least && v <= most;
    }

    private boolean isVillage(int v) {
        return land != null && in(v, 0, land.worth.length - 1);
    }

    private boolean isWalker(int w) {
        return land != null && in(w, 0, land.sorts.length - 1);
    }

    private static int finding(int number) {
        return -1000010 - number;
    }

    // ---- rows

    private int row(int row, int lane, int n) {
        if (!in(row, 0, 7) || !in(lane, 0, 2) || n > 40) {
            return BAD;
        }
        if (n < 0) {
            return finding(SIZE);
        }
        rows[row] = new Row(lane, new int[n]);
        return n;
    }

    private int set(int row, int i, int v) {
        if (!in(row, 0, 7)) {
            return BAD;
        }
        int found = findingOf(row, i, 1);
        if (found != 0) {
            return found;
        }
        int bits = 8 << rows[row].lane;
        rows[row].items[i] = v << 32 - bits >> 32 - bits;
        return rows[row].items[i];
    }

    private int findingOf(int row, int i, int n) {
        if (rows[row] == null) {
            return finding(NULL);
        }
        return isWithin(rows[row], i, n) ? 0 : finding(PLACE);
    }

    private static boolean isWithin(Row row, int i, int n) {
        return i >= 0 && n >= 0 && (long) i + n <= row.items.length;
    }

    private int copy(int a, int i, int b, int j, int n) {
        if (!in(a, 0, 7) || !in(b, 0, 7)) {
            return BAD;
        }
        if (rows[a] == null || rows[b] == null) {
            return finding(NULL);
        }
        if (rows[a].lane != rows[b].lane) {
            return finding(STORE);
        }
        if (!isWithin(rows[a], i, n) || !isWithin(rows[b], j, n)) {
            return finding(PLACE);
        }
        int[] ahead = rows[a].items.clone();
        for (int k = 0; k < n; k++) {
            rows[b].items[j + k] = ahead[i + k];
        }
        return n;
    }

    private int drop(int row) {
        if (!in(row, 0, 7)) {
            return BAD;
        }
        if (rows[row] == null) {
            return finding(NULL);
        }
        int had = rows[row].items.length;
        rows[row] = null;
        return had;
    }

    // ---- what is told

    private int feed(int letter) {
        if (!in(letter, 0, 255)) {
            return BAD;
        }
        if (tape.length() == 120) {
            return FULL;
        }
        tape.append((char) letter);
        return tape.length();
    }

    private int read() {
        PlainReader reader = new PlainReader(tape.toString());
        tape.setLength(0);
        if (!reader.reads()) {
            fault = reader.fault();
            return -1000100 - reader.place();
        }
        land = reader.land();
        acts.clear();
        return land.worth.length;
    }

    private int undo() {
        if (acts.isEmpty()) {
            return STATE;
        }
        land = acts.pop();
        return acts.size();
    }

    // ---- what is done

    private void act() {
        acts.push(land.copy());
        if (acts.size() > 24) {
            acts.removeLast();
        }
    }

    private int days(int n) {
        if (land == null) {
            return STATE;
        }
        if (!in(n, 1, 24)) {
            return BAD;
        }
        if (land.day + n > 999) {
            return FULL;
        }
        for (int d = 0; d < n; d++) {
            act();
            land.aDay();
        }
        return land.gain;
    }

    private int offer(int village, int v) {
        if (!isVillage(village) || !in(v, 0, 20)) {
            return BAD;
        }
        int was = land.offers[village];
        if (v != was) {
            act();
            land.offers[village] = v;
        }
        return was;
    }

    private int door(int village, int shut) {
        if (!isVillage(village) || !in(shut, 0, 1)) {
            return BAD;
        }
        if (land.shut[village] == (shut == 1)) {
            return STATE;
        }
        act();
        land.shut[village] = shut == 1;
        int many = 0;
        for (boolean is : land.shut) {
            many += is ? 1 : 0;
        }
        return many;
    }

    private int village(int v, int what) {
        if (!isVillage(v) || !in(what, 0, 5)) {
            return BAD;
        }
        int roads = 0;
        for (int to = 0; to < land.worth.length; to++) {
            roads += land.leads(v, to) ? 1 << to : 0;
        }
        return new int[] {land.worth[v], land.offers[v], land.shut[v] ? 1 : 0, land.frost[v], land.nights[v], roads}[what];
    }

    private int walker(int w, int what) {
        if (!isWalker(w) || !in(what, 0, 2)) {
            return BAD;
        }
        return what == 0 ? land.at[w] : what == 1 ? land.before[w] : land.goesTo(w);
    }

    // ---- foretold

    private PlainLand behind(int n) {
        PlainLand then = land.copy();
        for (int d = 0; d < n; d++) {
            then.aDay();
        }
        return then;
    }

    private int ahead(int w, int n, int what) {
        if (!isWalker(w) || !in(n, 0, 100) || !in(what, 0, 1)) {
            return BAD;
        }
        return what == 0 ? behind(n).at[w] : behind(n).before[w];
    }

    private int cold(int n, int what) {
        if (land == null) {
            return STATE;
        }
        if (!in(n, 0, 100) || !in(what, 0, 2)) {
            return BAD;
        }
        PlainLand then = behind(n);
        return new int[] {then.gain, then.paid, then.frozen()}[what];
    }

    /** The first of n DAYS behind which it is so; NONE. */
    private static int first(PlainLand land, int n, Predicate<PlainLand> isSo) {
        PlainLand then = land.copy();
        for (int d = 0; d < n; d++) {
            then.aDay();
            if (isSo.test(then)) {
                return d;
            }
        }
        return NONE;
    }

    private int firstFrozen(int v, int n) {
        return first(land, n, then -> then.frost[v] > 0);
    }

    private int freezes(int v, int n) {
        return isVillage(v) && in(n, 1, 100) ? firstFrozen(v, n) : BAD;
    }

    private int warn(int k) {
        if (land == null) {
            return STATE;
        }
        if (!in(k, -1, 7)) {
            return BAD;
        }
        List<Integer> order = new ArrayList<>();
        for (int v = 0; v < land.worth.length; v++) {
            if (firstFrozen(v, 100) != NONE) {
                order.add(v);
            }
        }
        // this keeps those of one DAY by numbers
        order.sort((v, w) -> Integer.compare(firstFrozen(v, 100), firstFrozen(w, 100)));
        if (k == -1) {
            return order.size();
        }
        return k < order.size() ? order.get(k) : NONE;
    }

    private static boolean isSleptIn(PlainLand from, int v, int n) {
        return first(from, n, then -> then.sleepersIn(v) > 0) != NONE;
    }

    private int lure(int v, int n) {
        if (!isVillage(v) || !in(n, 1, 100)) {
            return BAD;
        }
        for (int offer = 0; offer <= 20; offer++) {
            if (isSleptIn(land.withOffer(v, offer), v, n)) {
                return offer;
            }
        }
        return NONE;
    }

    private int keepsAway(int v, int n, int what) {
        if (!isVillage(v) || !in(n, 1, 100) || !in(what, 0, 1)) {
            return BAD;
        }
        for (int many = 0; many <= 3; many++) {
            for (int doors = 0; doors < 1 << land.worth.length; doors++) {
                PlainLand shut = land.withShut(doors);
                if (Integer.bitCount(doors) == many && shut != null && !isSleptIn(shut, v, n)) {
                    return what == 0 ? many : doors;
                }
            }
        }
        return NONE;
    }

    private int hasForItself(int v, int offer, int n) {
        PlainLand then = land.withOffer(v, offer);
        int nights = then.nights[v];
        int paid = then.paidBy[v];
        for (int d = 0; d < n; d++) {
            then.aDay();
        }
        return then.worth[v] * (then.nights[v] - nights) - (then.paidBy[v] - paid);
    }

    private int bid(int v, int n, int what) {
        if (!isVillage(v) || !in(n, 1, 50) || !in(what, 0, 1)) {
            return BAD;
        }
        int best = 20;
        for (int offer = 19; offer >= 0; offer--) {
            best = hasForItself(v, offer, n) >= hasForItself(v, best, n) ? offer : best;
        }
        return what == 0 ? best : hasForItself(v, best, n);
    }

    private int rests(int n) {
        if (land == null) {
            return STATE;
        }
        if (!in(n, 1, 50)) {
            return BAD;
        }
        int bits = 0;
        for (int v = 0; v < land.worth.length; v++) {
            bits |= bid(v, n, 1) > hasForItself(v, land.offers[v], n) ? 1 << v : 0;
        }
        return bits;
    }

    private int fits(int w, int row, int i, int n) {
        if (!isWalker(w) || !in(row, 0, 7) || !in(n, 1, 24)) {
            return BAD;
        }
        int found = findingOf(row, i, n);
        if (found != 0) {
            return found;
        }
        int kinds = 0;
        for (int kind = 1; kind <= 5; kind++) {
            PlainLand then = land.copy();
            then.sorts[w] = PlainLand.SORTS.charAt(kind);
            int so = 0;
            for (int d = 0; d < n; d++) {
                then.aDay();
                so += then.at[w] == rows[row].items[i + d] ? 1 : 0;
            }
            kinds |= so == n ? 1 << kind : 0;
        }
        return kinds;
    }

    private int round(int w) {
        if (!isWalker(w)) {
            return BAD;
        }
        PlainLand then = behind(100);
        int bits = 0;
        for (int day = 100; day <= 199; day++) {
            then.aDay();
            bits |= 1 << then.at[w];
        }
        return bits;
    }

    private int meet(int n, int what) {
        if (land == null) {
            return STATE;
        }
        if (!in(n, 1, 100) || !in(what, 0, 1)) {
            return BAD;
        }
        int day = first(land, n, then -> meetingPlace(then) != NONE);
        return day == NONE || what == 0 ? day : meetingPlace(behind(day + 1));
    }

    private static int meetingPlace(PlainLand then) {
        for (int v = 0; v < then.worth.length; v++) {
            if (then.sleepersIn(v) >= 2) {
                return v;
            }
        }
        return NONE;
    }

    private int slept(int w, int row, int i, int n, int what) {
        if (!isWalker(w) || !in(row, 0, 7) || !in(n, 1, 12) || !in(what, 0, 1)) {
            return BAD;
        }
        int found = findingOf(row, i, n);
        if (found != 0) {
            return found;
        }
        List<Integer> can = new ArrayList<>();
        for (int v = 0; v < land.worth.length; v++) {
            PlainLand then = land.withOnly(w).setOutFrom(v);
            int so = 0;
            for (int d = 0; d < n; d++) {
                then.aDay();
                so += then.frozen() == rows[row].items[i + d] ? 1 : 0;
            }
            if (so == n) {
                can.add(v);
            }
        }
        return what == 0 ? can.size() : can.isEmpty() ? NONE : can.get(0);
    }

    private long late(int w, int p, int n, int v, int what) {
        if (!isWalker(w) || !in(p, 0, 10) || !in(n, 0, 6) || !isVillage(v) || !in(what, 0, 1)) {
            return BAD;
        }
        BigInteger above = BigInteger.ZERO;
        for (int which = 0; which < 1 << n; which++) {
            PlainLand then = land.withOnly(w);
            BigInteger cases = BigInteger.ONE;
            for (int d = 0; d < n; d++) {
                boolean goes = (which >> d & 1) == 1;
                cases = cases.multiply(BigInteger.valueOf(goes ? p : 10 - p));
                if (goes) {
                    then.aDay();
                }
            }
            above = then.at[0] == v ? above.add(cases) : above;
        }
        BigInteger below = BigInteger.TEN.pow(n);
        BigInteger shared = above.gcd(below);
        return (what == 0 ? above : below).divide(shared).longValue();
    }

    private int year(int n, int seed, int what) {
        if (land == null) {
            return STATE;
        }
        if (!in(n, 0, 100) || !in(seed, 1, 999999) || !in(what, 0, 1)) {
            return BAD;
        }
        PlainLand then = land.copy();
        BigInteger x = BigInteger.valueOf(seed);
        for (int d = 0; d < n; d++) {
            x = x.multiply(BigInteger.valueOf(16807)).mod(BigInteger.valueOf(2147483647));
            int v = x.mod(BigInteger.valueOf(then.worth.length)).intValue();
            then.shut[v] = !then.shut[v];
            then.aDay();
            then.shut[v] = !then.shut[v];
        }
        int most = 0;
        for (int v = 0; v < then.worth.length; v++) {
            most = then.nights[v] > then.nights[most] ? v : most;
        }
        return what == 0 ? then.gain - land.gain : most;
    }

    private int image(int k) {
        if (!in(k, 0, 1)) {
            return BAD;
        }
        if (land == null) {
            return STATE;
        }
        images[k] = land.copy();
        return 1;
    }

    private int restore(int k) {
        if (!in(k, 0, 1)) {
            return BAD;
        }
        if (images[k] == null) {
            return STATE;
        }
        land = images[k].copy();
        acts.clear();
        return 1;
    }

    // ---- asked

    private int kindOf(int w) {
        return PlainLand.SORTS.indexOf(land.sorts[w]);
    }

    private int as(int w, int kind) {
        if (!isWalker(w) || !in(kind, 0, 5)) {
            return BAD;
        }
        int[][] alsoOf = {{}, {0, 1}, {0, 1, 2}, {0, 1, 3}, {0, 4}, {0, 4, 5}};
        for (int is : alsoOf[kindOf(w)]) {
            if (is == kind) {
                return w;
            }
        }
        return finding(KIND);
    }

    private int ask(int w, int what) {
        if (!isWalker(w) || !in(what, 0, 1)) {
            return BAD;
        }
        trace.clear();
        return what == 0 ? size(w) : mark(w);
    }

    private int size(int w) {
        return body(new int[] {10, 11, 12, 11, 13, 14}[kindOf(w)], w);
    }

    private int mark(int w) {
        return body(new int[] {20, 21, 24, 22, 23, 23}[kindOf(w)], w);
    }

    private int body(int number, int w) {
        if (trace.size() < 16) {
            trace.add(number);
        }
        switch (number) {
            case 10: return land.at[w];
            case 11: return body(10, w) + mark(w);
            case 12: return 0 - body(11, w);
            case 13: return body(10, w) - 100;
            case 14: return body(13, w) * 2;
            case 20: return w;
            case 21: return body(20, w) + land.offers[land.at[w]];
            case 22: return body(21, w) - 1000;
            case 23: return body(20, w) - size(w);
            case 24: return body(21, w) * 2;
            default: throw new IllegalArgumentException("BODY " + number);
        }
    }

    private int count(int what) {
        int many = 0;
        for (Row row : rows) {
            many += row != null ? 1 : 0;
        }
        switch (what) {
            case 0: return many;
            case 1: return land == null ? 0 : land.worth.length;
            case 2: return land == null ? 0 : land.roads.size();
            case 3: return land == null ? 0 : land.sorts.length;
            case 4: return land == null ? 0 : land.day;
            case 5: return land == null ? 0 : land.gain;
            case 6: return land == null ? 0 : land.paid;
            case 7: return acts.size();
            case 8: return tape.length();
            default: return BAD;
        }
    }
}
