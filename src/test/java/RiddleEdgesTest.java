import java.math.BigInteger;

/** Promises 20 to 24 and 27 to 29: how far OFFERS, doors, rows, cases and years go, and what is NONE. */
public final class RiddleEdgesTest {
    private static final int MIN = Integer.MIN_VALUE, MAX = Integer.MAX_VALUE;
    private static final String FORK = "f1;g0,4;g6,2;g9,5;r0,1;r0,2;o0;";
    private static final String PAIR = "f1;g1,0;g3,0;r0,1;";
    private static final String STAR = "f1;" + "g0,0;".repeat(8) + "r0,1;r0,2;r0,3;r0,4;r0,5;r0,6;r0,7;";

    public static void main(String[] args) {
        lureTakes();
        luresByNoneAndByTwenty();
        lureOfNobody();
        luresOnTheLastDay();
        keepsAwayTakes();
        noDoorOneDoorNoneHelps();
        doorsThatAreShutAreNotShutMore();
        ofSeveralDoorsTheLeast();
        keepsAwayToTheLastDay();
        bidTakes();
        bidsByNoneAndByTwenty();
        bidsOfOneDayAndOfFifty();
        bidOfNobody();
        restsTakes();
        restsWithNoneAndAll();
        restsAsBidsSay();
        fitsTakes();
        fitsAtPlaces();
        fitsOneToTwentyFourNights();
        fitsByNumbersThatAreNoVillages();
        sleptTakes();
        sleptAtPlaces();
        sleptOneToTwelveDays();
        sleptByBitsThatAreNoVillages();
        sleptNowhereAndEverywhere();
        findingsOfRowsInOrder();
        lateTakes();
        lateByNoDays();
        lateInNoCaseAndInEach();
        lateInLowestTerms();
        yearTakes();
        yearOfNoDays();
        yearsAsDone();
        yearOfNobody();
        noLandIsAheadOfBad();
        Due.end("RiddleEdgesTest");
    }

    // "in the next n DAYS (1 to 100)"
    private static void lureTakes() {
        Edge.takes("lure, village", Worlds::busy, (x, v) -> x.lure(v, 5), 0, 4);
        Edge.takes("lure, village of eight", Worlds::full, (x, v) -> x.lure(v, 5), 0, 7);
        Edge.takes("lure, n", Worlds::busy, (x, v) -> x.lure(0, v), 1, 100);
        Edge.takes("lure, n, where it is NONE", Worlds::still, (x, v) -> x.lure(0, v), 1, 100);
        Edge.refused("lure without a LAND", Worlds::none, x -> x.lure(0, 1), Due.BAD);
    }

    // "the least OFFER of its own (0 to 20) by which somebody sleeps there"; "NONE"
    private static void luresByNoneAndByTwenty() {
        for (int other = 0; other <= 20; other++) {
            WinterWalk x = Due.told("f1;g0,0;g0," + other + ";g0," + other + ";r0,1;r0,2;o0;");
            Due.due("the first has to offer as much as " + other, x.lure(1, 1), other);
            Due.due("the second has to offer more than " + other, x.lure(2, 1), other < 20 ? other + 1 : Due.NONE);
        }
        WinterWalk x = Due.told(FORK);
        x.door(1, 1);
        Due.due("the only one OPEN by none", x.lure(2, 1), 0);
        Due.due("one that is shut by none", x.lure(1, 100), Due.NONE);
    }

    private static void lureOfNobody() {
        for (int v = 0; v < 3; v++) {
            Due.due("nobody goes", Worlds.still().lure(v, 100), Due.NONE);
        }
        Due.due("who stays needs no OFFER", Worlds.alone().lure(0, 1), 0);
        Due.due("no road leads there", Due.told("f1;g0,0;g0,20;o0;").lure(1, 100), Due.NONE);
    }

    private static void luresOnTheLastDay() {
        Due.due("on DAY 99", Worlds.sisterHeldBack(50, 2).lure(3, 100), 0);
        Due.due("not in 99 DAYS", Worlds.sisterHeldBack(50, 2).lure(3, 99), Due.NONE);
        Due.due("on DAY 100", Worlds.sisterHeldBack(50, 1).lure(3, 100), Due.NONE);
        Due.due("on DAY 1", Due.told(FORK).lure(0, 2), 0);
        Due.due("not on DAY 0", Due.told(FORK).lure(0, 1), Due.NONE);
    }

    private static void keepsAwayTakes() {
        Edge.takes("keepsAway, village", Worlds::busy, (x, v) -> x.keepsAway(v, 5, 0), 0, 4);
        Edge.takes("keepsAway, village of eight", Worlds::full, (x, v) -> x.keepsAway(v, 5, 1), 0, 7);
        Edge.takes("keepsAway, n", Worlds::busy, (x, v) -> x.keepsAway(0, v, 0), 1, 100);
        Edge.takes("keepsAway, n, where it is NONE", Worlds::alone, (x, v) -> x.keepsAway(0, v, 1), 1, 100);
        Edge.takes("keepsAway, what", Worlds::busy, (x, v) -> x.keepsAway(0, 5, v), 0, 1);
        Edge.refused("keepsAway without a LAND", Worlds::none, x -> x.keepsAway(0, 1, 0), Due.BAD);
    }

    // "the fewest doors shut more (not more than 3 ..)"; "NONE"
    private static void noDoorOneDoorNoneHelps() {
        for (int v = 0; v < 3; v++) {
            away(Worlds.still(), v, 100, 0, 0);
        }
        away(Worlds.alone(), 0, 1, Due.NONE, Due.NONE);
        away(Due.told(FORK), 2, 1, 1, 4);
        // on DAY 2 a slow one stays, whatever doors there are
        WinterWalk slow = Due.told(PAIR + "s0;");
        slow.days(2);
        away(slow, 0, 1, Due.NONE, Due.NONE);
        away(slow, 1, 1, 0, 0);
        away(slow, 1, 2, 1, 2);
        WinterWalk seven = Due.told(STAR + "o7;");
        away(seven, 7, 1, 0, 0);
        away(seven, 0, 1, 1, 1);
    }

    // "none of which is shut"
    private static void doorsThatAreShutAreNotShutMore() {
        WinterWalk x = Due.told(FORK);
        x.door(1, 1);
        x.door(2, 1);
        away(x, 0, 1, Due.NONE, Due.NONE);
        away(x, 1, 100, 0, 0);
        WinterWalk one = Due.told(FORK);
        one.door(2, 1);
        away(one, 1, 1, 1, 2);
        for (int v = 0; v < 8; v++) {
            boolean isIn = Worlds.full().nights(v, 1) > Worlds.full().nights(v, 0);
            away(Worlds.full(), v, 100, isIn ? Due.NONE : 0, isIn ? Due.NONE : 0);
        }
    }

    // "which (bits), of several the least"
    private static void ofSeveralDoorsTheLeast() {
        // along eight each door on the way would do: that of 1 has the least bit, as 0 is behind
        for (int v = 1; v < 8; v++) {
            away(Worlds.alongEight(1), v, v, 1, 2);
            if (v > 1) {
                away(Worlds.alongEight(1), v, v - 1, 0, 0);
            }
        }
        WinterWalk x = Worlds.alongEight(1);
        x.days(3);
        away(x, 7, 4, 1, 16);
        x.door(4, 1);
        away(x, 7, 4, 0, 0);
    }

    private static void keepsAwayToTheLastDay() {
        away(Worlds.sisterHeldBack(50, 2), 3, 99, 0, 0);
        away(Worlds.sisterHeldBack(50, 2), 3, 100, 1, 1);
        away(Worlds.sisterHeldBack(50, 1), 3, 100, 0, 0);
    }

    private static void away(WinterWalk x, int village, int n, int many, int which) {
        String call = "keepsAway(" + village + ", " + n + ", ";
        Due.due(call + "0)", x.keepsAway(village, n, 0), many);
        Due.due(call + "1)", x.keepsAway(village, n, 1), which);
    }

    // "BID of a VILLAGE for n DAYS (1 to 50)"
    private static void bidTakes() {
        Edge.takes("bid, village", Worlds::busy, (x, v) -> x.bid(v, 5, 0), 0, 4);
        Edge.takes("bid, village of eight", Worlds::full, (x, v) -> x.bid(v, 5, 1), 0, 7);
        Edge.takes("bid, n", Worlds::busy, (x, v) -> x.bid(0, v, 0), 1, 50);
        Edge.takes("bid, n, how much", Worlds::alone, (x, v) -> x.bid(0, v, 1), 1, 50);
        Edge.takes("bid, what", Worlds::busy, (x, v) -> x.bid(0, 5, v), 0, 1);
        Edge.refused("bid without a LAND", Worlds::none, x -> x.bid(0, 1, 0), Due.BAD);
    }

    // "the OFFER of its own (0 to 20) by which what it has for itself .. is greatest, of several the least"
    private static void bidsByNoneAndByTwenty() {
        bids(Due.told(FORK), 1, 1, 5, 1);
        bids(Due.told("f1;g0,0;g9,3;g0,8;r0,1;r0,2;o0;"), 1, 1, 8, 1);
        bids(Due.told("f1;g0,0;g9,3;g0,9;r0,1;r0,2;o0;"), 1, 1, 0, 0);
        bids(Due.told("f1;g0,0;c9,3;g0,9;r0,1;r0,2;o0;"), 1, 1, 0, 0);
        bids(Due.told("f1;g0,0;c9,20;r0,1;o0;"), 1, 1, 0, -9);
        // by 20 alone it goes past 2 to 4, 0, 1 for ever; by less it comes again and again
        String round = "f1;g0,20;g0,0;c9,0;g0,20;g0,0;g0,0;r5,2;r5,3;r2,3;r3,4;r4,0;r4,1;r0,1;l5;";
        bids(Due.told(round), 2, 50, 20, -29);
    }

    private static void bidsOfOneDayAndOfFifty() {
        bids(Worlds.alone(), 0, 1, 0, 3);
        bids(Worlds.alone(), 0, 49, 0, 147);
        bids(Worlds.alone(), 0, 50, 0, 150);
        bids(Due.told("f1;g9,20;t0;e0;t0;"), 0, 50, 0, 9 * 3 * 50);
        bids(Due.told("f1;c9,20;o0;s0;l0;"), 0, 50, 0, -9 * 3 * 50);
        bids(Worlds.sisterHeldBack(25, 2), 3, 50, 0, 5);
        bids(Worlds.sisterHeldBack(25, 2), 3, 49, 0, 0);
        bids(Worlds.sisterHeldBack(25, 1), 3, 50, 0, 0);
    }

    private static void bidOfNobody() {
        for (int v = 0; v < 3; v++) {
            bids(Worlds.still(), v, 50, 0, 0);
        }
        bids(Due.told("f1;g0,0;g9,20;o0;"), 1, 50, 0, 0);
    }

    private static void bids(WinterWalk x, int village, int n, int offer, int much) {
        String call = "bid(" + village + ", " + n + ", ";
        Due.due(call + "0)", x.bid(village, n, 0), offer);
        Due.due(call + "1)", x.bid(village, n, 1), much);
    }

    // promise 23: "RESTS (1 to 50 DAYS). BAD"
    private static void restsTakes() {
        Edge.takes("rests", Worlds::busy, (x, v) -> x.rests(v), 1, 50);
        Edge.takes("rests, nobody going", Worlds::still, (x, v) -> x.rests(v), 1, 50);
    }

    // "VILLAGES (bits) that would have more by another OFFER in n DAYS"
    private static void restsWithNoneAndAll() {
        Due.due("nobody goes", Worlds.still().rests(50), 0);
        Due.due("the only one would pay less", Worlds.alone().rests(1), 1);
        WinterWalk x = Worlds.alone();
        x.offer(0, 0);
        Due.due("it cannot pay less than nothing", x.rests(50), 0);
        x.offer(0, 1);
        Due.due("it can pay 1 less", x.rests(1), 1);
        x.offer(0, 20);
        Due.due("it can pay 20 less", x.rests(50), 1);
        Due.due("who pays nobody rests", Due.told("f1;g9,20;t0;e0;").rests(50), 0);
        WinterWalk last = Due.told(Worlds.EIGHT + "o7;");
        Due.due("all rest", last.rests(50), 0);
        last.offer(7, 1);
        Due.due("but the last", last.rests(50), 128);
        WinterWalk three = Due.told("f1;g0,1;g0,1;g0,1;o0;o1;o2;");
        Due.due("all of three", three.rests(1), 7);
    }

    private static void restsAsBidsSay() {
        for (Edge.World land : new Edge.World[] {Worlds::busy, Worlds::alone, () -> Due.told(FORK)}) {
            for (int n : new int[] {1, 2, 49, 50}) {
                WinterWalk x = land.anew();
                int due = 0;
                for (int v = 0; v < x.count(1); v++) {
                    due |= x.bid(v, n, 1) > has(land, v, n) ? 1 << v : 0;
                }
                Due.due("rests(" + n + ")", x.rests(n), due);
            }
        }
    }

    /** What a VILLAGE has for itself by the OFFER that is there, as done. */
    private static int has(Edge.World land, int village, int n) {
        WinterWalk x = land.anew();
        int walkers = x.count(3);
        int worth = x.village(village, 0);
        int offer = x.village(village, 1);
        int[] kept = new int[walkers];
        for (int w = 0; w < walkers; w++) {
            kept[w] = x.kind(w) <= 3 ? worth - offer : worth;
        }
        int sum = 0;
        for (int d = 0; d < n; d++) {
            x.days(1);
            for (int w = 0; w < walkers; w++) {
                sum += x.walker(w, 0) == village ? kept[w] : 0;
            }
        }
        return sum;
    }

    // "n VILLAGES (1 to 24)"; promise 24: "BAD: WALKER, ROW, n"
    private static void fitsTakes() {
        Edge.takes("fits, walker", Worlds::busy, (x, v) -> x.fits(v, 0, 0, 1), 0, 2);
        Edge.takes("fits, row", Worlds::full, (x, v) -> x.fits(0, v, 0, 1), 0, 7);
        Edge.takes("fits, n", Worlds::full, (x, v) -> x.fits(0, 0, 0, v), 1, 24);
        Edge.refused("fits without a LAND", Worlds::none, x -> x.fits(0, 0, 0, 1), Due.BAD);
        Edge.refused("fits without WALKERS", Worlds::still, x -> x.fits(0, 0, 0, 1), Due.BAD);
        Edge.refused("BAD n is ahead of NULL", Worlds::busy, x -> x.fits(0, 7, 0, 25), Due.BAD);
        Edge.refused("BAD n is ahead of PLACE", Worlds::busy, x -> x.fits(0, 0, -1, 0), Due.BAD);
        Edge.refused("BAD walker is ahead of NULL", Worlds::busy, x -> x.fits(3, 7, 0, 1), Due.BAD);
    }

    // "n ITEMS of a ROW from i on"; "NULL; PLACE"
    private static void fitsAtPlaces() {
        long no = Due.PLACE;
        Edge.takes("fits, i, one of six", Worlds::busy, (x, v) -> x.fits(0, 0, v, 1), 0, 5, no, no);
        Edge.takes("fits, i, six of six", Worlds::busy, (x, v) -> x.fits(0, 0, v, 6), 0, 0, no, no);
        Edge.takes("fits, i, 24 of forty", Worlds::full, (x, v) -> x.fits(0, 7, v, 24), 0, 16, no, no);
        Edge.takes("fits, i, one of forty", Worlds::full, (x, v) -> x.fits(0, 7, v, 1), 0, 39, no, no);
        Edge.refused("seven of six", Worlds::busy, x -> x.fits(0, 0, 0, 7), no);
        Edge.refused("i + n wraps around", Worlds::busy, x -> x.fits(0, 0, MAX - 23, 24), no);
        Edge.refused("i below 0, its end not", Worlds::busy, x -> x.fits(0, 0, -1, 2), no);
        Edge.refused("of an empty ROW", Worlds::busy, x -> x.fits(0, 3, 0, 1), no);
        for (int i : new int[] {MIN, -1, 0, 40, MAX}) {
            Edge.refused("of a missing ROW, i " + i, Worlds::busy, x -> x.fits(0, 7, i, 1), Due.NULL);
        }
    }

    private static void fitsOneToTwentyFourNights() {
        for (int wrong = 0; wrong < 26; wrong++) {
            WinterWalk x = Worlds.alone();
            x.row(0, 0, 26);
            x.set(0, wrong, 1);
            for (int n : new int[] {1, 2, 23, 24}) {
                Due.due(n + " nights, all but " + wrong + " so", x.fits(0, 0, 0, n), wrong < n ? 0 : 62);
                Due.due(n + " nights from 2 on", x.fits(0, 0, 2, n), wrong >= 2 && wrong - 2 < n ? 0 : 62);
            }
        }
        // by four KINDS it would go so; as an early one it would stay
        WinterWalk pair = Due.told(PAIR + "t0;");
        Due.lay(pair, 0, 2, 1, 0, 1, 0);
        Due.due("one night", pair.fits(0, 0, 0, 1), 2 + 4 + 8 + 16);
        Due.due("three nights, as none that is slow", pair.fits(0, 0, 0, 3), 2 + 8 + 16);
        Due.due("the night after the first", pair.fits(0, 0, 1, 1), 32);
    }

    private static void fitsByNumbersThatAreNoVillages() {
        for (int v : new int[] {MIN, -256, -1, 1, 8, 256, 65536, MAX, -1000000}) {
            WinterWalk x = Worlds.alone();
            Due.lay(x, 0, 2, v, 0);
            Due.due("one night in " + v, x.fits(0, 0, 0, 1), 0);
            Due.due("a night behind it", x.fits(0, 0, 1, 1), 62);
        }
    }

    // "behind each of n DAYS (1 to 12)"; promise 27: "BAD: WALKER, ROW, n, what"
    private static void sleptTakes() {
        Edge.takes("slept, walker", Worlds::busy, (x, v) -> x.slept(v, 0, 0, 1, 0), 0, 2);
        Edge.takes("slept, row", Worlds::full, (x, v) -> x.slept(0, v, 0, 1, 0), 0, 7);
        Edge.takes("slept, n", Worlds::full, (x, v) -> x.slept(0, 0, 0, v, 0), 1, 12);
        Edge.takes("slept, what", Worlds::busy, (x, v) -> x.slept(0, 0, 0, 1, v), 0, 1);
        Edge.refused("slept without a LAND", Worlds::none, x -> x.slept(0, 0, 0, 1, 0), Due.BAD);
        Edge.refused("slept without WALKERS", Worlds::still, x -> x.slept(0, 0, 0, 1, 0), Due.BAD);
        Edge.refused("BAD n is ahead of NULL", Worlds::busy, x -> x.slept(0, 7, 0, 13, 0), Due.BAD);
        Edge.refused("BAD what is ahead of NULL", Worlds::busy, x -> x.slept(0, 7, 0, 1, 2), Due.BAD);
        Edge.refused("BAD what is ahead of PLACE", Worlds::busy, x -> x.slept(0, 0, -1, 1, -1), Due.BAD);
    }

    private static void sleptAtPlaces() {
        long no = Due.PLACE;
        Edge.takes("slept, i, one of six", Worlds::busy, (x, v) -> x.slept(0, 0, v, 1, 0), 0, 5, no, no);
        Edge.takes("slept, i, six of six", Worlds::busy, (x, v) -> x.slept(0, 0, v, 6, 0), 0, 0, no, no);
        Edge.takes("slept, i, twelve of forty", Worlds::full, (x, v) -> x.slept(0, 7, v, 12, 1), 0, 28, no, no);
        Edge.refused("seven of six", Worlds::busy, x -> x.slept(0, 0, 0, 7, 0), no);
        Edge.refused("i + n wraps around", Worlds::busy, x -> x.slept(0, 0, MAX - 11, 12, 0), no);
        Edge.refused("i below 0, its end not", Worlds::busy, x -> x.slept(0, 0, -1, 2, 0), no);
        Edge.refused("of an empty ROW", Worlds::busy, x -> x.slept(0, 3, 0, 1, 0), no);
        for (int i : new int[] {MIN, -1, 0, 40, MAX}) {
            Edge.refused("of a missing ROW, i " + i, Worlds::busy, x -> x.slept(0, 7, i, 1, 1), Due.NULL);
        }
    }

    private static void sleptOneToTwelveDays() {
        for (int wrong = 0; wrong < 14; wrong++) {
            WinterWalk x = Worlds.alone();
            Due.lay(x, 0, 1, 1, 1, 1, 1, 1, 1, 1, 1, 1, 1, 1, 1, 1, 1);
            x.set(0, wrong, 0);
            for (int n : new int[] {1, 2, 11, 12}) {
                boolean isSo = wrong >= n;
                Due.due(n + " DAYS, all but " + wrong + " so", x.slept(0, 0, 0, n, 0), isSo ? 1 : 0);
                Due.due("the first", x.slept(0, 0, 0, n, 1), isSo ? 0 : Due.NONE);
                boolean isSoLater = wrong < 2 || wrong - 2 >= n;
                Due.due(n + " DAYS from 2 on", x.slept(0, 0, 2, n, 0), isSoLater ? 1 : 0);
            }
        }
    }

    private static void sleptByBitsThatAreNoVillages() {
        for (int bits : new int[] {0, 2, 3, 257, 65537, -1, MIN, MIN + 1, MAX}) {
            WinterWalk x = Worlds.alone();
            Due.lay(x, 0, 2, bits);
            Due.due("frozen by " + bits, x.slept(0, 0, 0, 1, 0), 0);
            Due.due("the first", x.slept(0, 0, 0, 1, 1), Due.NONE);
        }
        WinterWalk eight = Due.told(STAR + "o0;");
        for (int lane = 1; lane <= 2; lane++) {
            Due.lay(eight, 0, lane, 255, 3);
            Due.due("all eight", eight.slept(0, 0, 0, 1, 0), 7);
            Due.due("the first of these", eight.slept(0, 0, 0, 1, 1), 1);
            Due.due("from 0 to 1 then", eight.slept(0, 0, 0, 2, 0), 7);
            Due.due("the other way", eight.slept(0, 0, 1, 1, 1), 0);
        }
    }

    // "where a WALKER .. can be now (each VILLAGE looked at ..): how many; the first; NONE"
    private static void sleptNowhereAndEverywhere() {
        WinterWalk three = Due.told("f1;g0,0;g0,0;g0,0;r0,1;r1,2;r0,2;t2;");
        Due.lay(three, 0, 0, 7, 7, 7, 7, 7, 7, 7, 7, 7, 7, 7, 7);
        Due.due("anywhere", three.slept(0, 0, 0, 12, 0), 3);
        Due.due("the first", three.slept(0, 0, 0, 12, 1), 0);
        for (int v = 0; v < 8; v++) {
            WinterWalk x = Due.told(Worlds.EIGHT + "e0;");
            Due.lay(x, 0, 2, 1 << v);
            Due.due("in " + v + " alone", x.slept(0, 0, 0, 1, 0), 1);
            Due.due("that is " + v, x.slept(0, 0, 0, 1, 1), v);
        }
        // the door of where it is looked for does not matter, nor who else is there
        WinterWalk shut = Due.told(PAIR + "o0;o0;o1;");
        shut.door(0, 1);
        shut.door(1, 1);
        Due.lay(shut, 0, 0, 3);
        Due.due("behind shut doors", shut.slept(0, 0, 0, 1, 0), 2);
    }

    // "FINDINGS, of several the first in time", as promises 24 and 27 have them
    private static void findingsOfRowsInOrder() {
        Edge.refused("fits: NULL is ahead of PLACE", Worlds::busy, x -> x.fits(0, 7, MIN, 24), Due.NULL);
        Edge.refused("slept: NULL is ahead of PLACE", Worlds::busy, x -> x.slept(0, 7, MAX, 12, 1), Due.NULL);
    }

    // "LATE by p of 10 (0 to 10)"; "behind n DAYS (0 to 6)"; promise 28: "BAD"
    private static void lateTakes() {
        Edge.takes("late, walker", Worlds::busy, (x, v) -> x.late(v, 5, 3, 0, 0), 0, 2);
        Edge.takes("late, p", Worlds::busy, (x, v) -> x.late(0, v, 3, 0, 0), 0, 10);
        Edge.takes("late, n", Worlds::busy, (x, v) -> x.late(0, 5, v, 0, 1), 0, 6);
        Edge.takes("late, village", Worlds::busy, (x, v) -> x.late(0, 5, 3, v, 0), 0, 4);
        Edge.takes("late, village of eight", Worlds::full, (x, v) -> x.late(2, 5, 3, v, 1), 0, 7);
        Edge.takes("late, what", Worlds::busy, (x, v) -> x.late(0, 5, 3, 0, v), 0, 1);
        Edge.refused("late without a LAND", Worlds::none, x -> x.late(0, 5, 3, 0, 0), Due.BAD);
        Edge.refused("late without WALKERS", Worlds::still, x -> x.late(0, 5, 3, 0, 0), Due.BAD);
    }

    // "0 is 0 by 1"
    private static void lateByNoDays() {
        for (int p = 0; p <= 10; p++) {
            for (int w = 0; w < 3; w++) {
                for (int v = 0; v < 5; v++) {
                    boolean isThere = Worlds.busy().walker(w, 0) == v;
                    Due.due("above", Worlds.busy().late(w, p, 0, v, 0), isThere ? 1 : 0);
                    Due.due("below", Worlds.busy().late(w, p, 0, v, 1), 1);
                }
            }
        }
    }

    private static void lateInNoCaseAndInEach() {
        for (char sort : "oslte".toCharArray()) {
            String text = "f1;g0,1;g0,3;g0,2;g0,0;r0,1;r1,2;r2,3;r3,0;" + sort + "2;";
            for (int n = 0; n <= 6; n++) {
                for (int v = 0; v < 4; v++) {
                    WinterWalk x = Due.told(text);
                    boolean stays = v == 2;
                    Due.due("in no case, above", x.late(0, 0, n, v, 0), stays ? 1 : 0);
                    Due.due("in no case, below", x.late(0, 0, n, v, 1), 1);
                    boolean goes = x.ahead(0, n, 0) == v;
                    Due.due("in each case, above", x.late(0, 10, n, v, 0), goes ? 1 : 0);
                    Due.due("in each case, below", x.late(0, 10, n, v, 1), 1);
                }
            }
        }
    }

    // "fractions, told as two numbers in lowest terms"
    private static void lateInLowestTerms() {
        WinterWalk x = Due.told(PAIR + "o0;");
        for (int p = 0; p <= 10; p++) {
            for (int n = 0; n <= 6; n++) {
                // away are those cases in which it went an odd number of times
                BigInteger all = BigInteger.TEN.pow(n);
                BigInteger away = all.subtract(BigInteger.valueOf(10 - 2 * p).pow(n)).shiftRight(1);
                holdFraction(x, p, n, 1, away, all);
                holdFraction(x, p, n, 0, all.subtract(away), all);
            }
        }
        Due.due("the greatest below", x.late(0, 1, 6, 1, 1), 31250);
        WinterWalk line = Worlds.alongEight(1);
        Due.due("all six gone, above", line.late(0, 1, 6, 6, 0), 1);
        Due.due("all six gone, below", line.late(0, 1, 6, 6, 1), 1000000);
        Due.due("all but one, above", line.late(0, 9, 6, 6, 0), 531441);
        Due.due("all but one, below", line.late(0, 9, 6, 6, 1), 1000000);
        Due.due("farther than it can come, above", line.late(0, 9, 6, 7, 0), 0);
        Due.due("farther than it can come, below", line.late(0, 9, 6, 7, 1), 1);
    }

    private static void holdFraction(WinterWalk x, int p, int n, int village, BigInteger above, BigInteger below) {
        BigInteger shared = above.gcd(below);
        String call = "late(0, " + p + ", " + n + ", " + village + ", ";
        Due.due(call + "0)", x.late(0, p, n, village, 0), above.divide(shared).longValue());
        Due.due(call + "1)", x.late(0, p, n, village, 1), below.divide(shared).longValue());
    }

    // "YEAR of n DAYS (0 to 100)"; promise 29: "(SEED 1 to 999999)"
    private static void yearTakes() {
        Edge.takes("year, n", Worlds::busy, (x, v) -> x.year(v, 1, 0), 0, 100);
        Edge.takes("year, n, the VILLAGE", Worlds::full, (x, v) -> x.year(v, 999999, 1), 0, 100);
        Edge.takes("year, seed", Worlds::busy, (x, v) -> x.year(5, v, 0), 1, 999999);
        Edge.takes("year, seed, no DAYS", Worlds::busy, (x, v) -> x.year(0, v, 0), 1, 999999);
        Edge.takes("year, what", Worlds::busy, (x, v) -> x.year(5, 1, v), 0, 1);
    }

    private static void yearOfNoDays() {
        for (Edge.World land : new Edge.World[] {Worlds::busy, Worlds::full, Worlds::still, Worlds::alone}) {
            WinterWalk x = land.anew();
            Due.due("no GAIN", x.year(0, 999999, 0), 0);
            Due.due("most NIGHTS now", x.year(0, 999999, 1), mostNights(x));
        }
        // of several the first: 0 and 1 have one night each
        WinterWalk x = Due.told(PAIR + "o0;");
        x.days(2);
        Due.due("of several the first", x.year(0, 1, 1), 0);
        x.days(1);
        Due.due("the one with more", x.year(0, 1, 1), 1);
    }

    private static int mostNights(WinterWalk x) {
        int best = 0;
        for (int v = 1; v < x.count(1); v++) {
            best = x.village(v, 4) > x.village(best, 4) ? v : best;
        }
        return best;
    }

    // "X becomes the rest of (X times 16807) by 2147483647": more than an int can hold
    private static void yearsAsDone() {
        for (Edge.World land : new Edge.World[] {Worlds::busy, Worlds::still, Worlds::alone, () -> Due.told(FORK)}) {
            for (int seed : new int[] {1, 2, 16807, 127773, 127774, 524288, 999998, 999999}) {
                for (int n : new int[] {1, 2, 99, 100}) {
                    WinterWalk done = land.anew();
                    int gain = done.count(5);
                    walkYear(done, n, seed);
                    String call = "year(" + n + ", " + seed + ", ";
                    Due.due(call + "0)", land.anew().year(n, seed, 0), done.count(5) - gain);
                    Due.due(call + "1)", land.anew().year(n, seed, 1), mostNights(done));
                }
            }
        }
    }

    private static void walkYear(WinterWalk x, int n, int seed) {
        int villages = x.count(1);
        int[] shut = new int[villages];
        for (int v = 0; v < villages; v++) {
            shut[v] = x.village(v, 2);
        }
        BigInteger drawn = BigInteger.valueOf(seed);
        for (int d = 0; d < n; d++) {
            drawn = drawn.multiply(BigInteger.valueOf(16807)).mod(BigInteger.valueOf(2147483647));
            int v = drawn.mod(BigInteger.valueOf(villages)).intValue();
            x.door(v, 1 - shut[v]);
            x.days(1);
            x.door(v, shut[v]);
        }
    }

    private static void yearOfNobody() {
        Due.due("GAIN", Worlds.still().year(100, 7, 0), 0);
        Due.due("the first, as none has any", Worlds.still().year(100, 7, 1), 0);
    }

    // promises 23, 29: "STATE: no LAND (ahead of BAD)"
    private static void noLandIsAheadOfBad() {
        for (int v : new int[] {-1, 0, 1, 2, 50, 51, 100, 101, 999999, 1000000, MIN, MAX}) {
            Edge.refused("rests(" + v + ")", Worlds::none, x -> x.rests(v), Due.STATE);
            Edge.refused("year(" + v + ", 1, 0)", Worlds::none, x -> x.year(v, 1, 0), Due.STATE);
            Edge.refused("year(1, " + v + ", 0)", Worlds::none, x -> x.year(1, v, 0), Due.STATE);
            Edge.refused("year(1, 1, " + v + ")", Worlds::none, x -> x.year(1, 1, v), Due.STATE);
        }
    }
}
