import java.util.Set;

/** A LAND of the document written a second time: FROST is counted down DAY by DAY. */
final class PlainLand {
    static final int NONE = -1000000;
    /** The letters of the KINDS 1 to 5, each at its number. */
    static final String SORTS = "?oslte";

    final int lasts;
    /** Each road both ways, as A times 8 and B. */
    final Set<Integer> roads;
    final int[] worth;
    final int[] offers;
    final boolean[] shut;
    final int[] frost;
    final int[] nights;
    /** What each VILLAGE has PAID. */
    final int[] paidBy;
    final char[] sorts;
    final int[] at;
    final int[] before;
    int day = 0;
    int gain = 0;
    int paid = 0;

    /** As told: on DAY 0. */
    PlainLand(int lasts, int[] worth, int[] offers, Set<Integer> roads, char[] sorts, int[] at) {
        this.lasts = lasts;
        this.roads = roads;
        this.worth = worth.clone();
        this.offers = offers.clone();
        this.sorts = sorts.clone();
        this.at = at.clone();
        shut = new boolean[worth.length];
        frost = new int[worth.length];
        nights = new int[worth.length];
        paidBy = new int[worth.length];
        before = new int[at.length];
        java.util.Arrays.fill(before, NONE);
    }

    PlainLand copy() {
        PlainLand other = new PlainLand(lasts, worth, offers, roads, sorts, at);
        System.arraycopy(shut, 0, other.shut, 0, shut.length);
        System.arraycopy(frost, 0, other.frost, 0, frost.length);
        System.arraycopy(nights, 0, other.nights, 0, nights.length);
        System.arraycopy(paidBy, 0, other.paidBy, 0, paidBy.length);
        System.arraycopy(before, 0, other.before, 0, before.length);
        other.day = day;
        other.gain = gain;
        other.paid = paid;
        return other;
    }

    PlainLand withOffer(int village, int offer) {
        PlainLand other = copy();
        other.offers[village] = offer;
        return other;
    }

    /** With doors (bits) shut more; null if one of them is. */
    PlainLand withShut(int doors) {
        PlainLand other = copy();
        for (int v = 0; v < worth.length; v++) {
            if ((doors >> v & 1) == 1) {
                if (shut[v]) {
                    return null;
                }
                other.shut[v] = true;
            }
        }
        return other;
    }

    /** A WALKER taken as the only one. */
    PlainLand withOnly(int w) {
        PlainLand other = new PlainLand(lasts, worth, offers, roads, new char[] {sorts[w]}, new int[] {at[w]});
        System.arraycopy(shut, 0, other.shut, 0, shut.length);
        System.arraycopy(frost, 0, other.frost, 0, frost.length);
        System.arraycopy(nights, 0, other.nights, 0, nights.length);
        other.before[0] = before[w];
        other.day = day;
        return other;
    }

    /** Nothing being frozen, the only one in a VILLAGE as if it had not gone yet. */
    PlainLand setOutFrom(int village) {
        java.util.Arrays.fill(frost, 0);
        at[0] = village;
        before[0] = NONE;
        return this;
    }

    boolean leads(int from, int to) {
        return roads.contains(from * 8 + to) || roads.contains(to * 8 + from);
    }

    private boolean isOpen(int from, int to) {
        return leads(from, to) && !shut[to];
    }

    int goesTo(int w) {
        int here = at[w];
        switch (sorts[w]) {
            case 'o': return byOffer(here, NONE);
            case 's': return day % 3 == 2 ? here : byOffer(here, NONE);
            case 'l': {
                int other = byOffer(here, before[w]);
                return other != here ? other : byOffer(here, NONE);
            }
            case 't': return byNights(here);
            default: return byNights(byNights(here));
        }
    }

    /** The OPEN one with the greatest OFFER but for one of them; here, if there is none. */
    private int byOffer(int here, int but) {
        int to = here;
        for (int v = worth.length - 1; v >= 0; v--) {
            if (isOpen(here, v) && v != but && (to == here || offers[v] >= offers[to])) {
                to = v;
            }
        }
        return to;
    }

    private int byNights(int here) {
        int to = here;
        for (int v = worth.length - 1; v >= 0; v--) {
            if (isOpen(here, v) && (to == here || nights[v] <= nights[to])) {
                to = v;
            }
        }
        return to;
    }

    void aDay() {
        for (int v = 0; v < worth.length; v++) {
            frost[v] -= frost[v] > 0 ? 1 : 0;
        }
        for (int w = 0; w < at.length; w++) {
            int to = goesTo(w);
            before[w] = at[w];
            at[w] = to;
            sleep(w, to);
        }
        day++;
    }

    private void sleep(int w, int there) {
        nights[there]++;
        frost[there] = lasts;
        for (int v = 0; v < worth.length; v++) {
            if (leads(there, v) && frost[v] < 1) {
                frost[v] = 1;
            }
        }
        gain += worth[there];
        if ("osl".indexOf(sorts[w]) >= 0) {
            paid += offers[there];
            paidBy[there] += offers[there];
        }
    }

    int frozen() {
        int bits = 0;
        for (int v = 0; v < worth.length; v++) {
            bits |= frost[v] > 0 ? 1 << v : 0;
        }
        return bits;
    }

    int sleepersIn(int village) {
        int many = 0;
        for (int where : at) {
            many += where == village ? 1 : 0;
        }
        return many;
    }
}
