/** Promises 15 to 19, 25 and 26: how far ahead can be asked, and what is NONE. */
public final class AheadEdgesTest {
    // the two of these are in one VILLAGE, in 1, on DAY 110 for the first time
    private static final String MEET_LATE =
        "f1;g0,1;g0,1;g0,1;g0,2;g0,0;r0,2;r1,2;r1,3;r1,4;r2,4;r3,4;l2;t4;";
    private static final Edge.World[] LANDS =
        {Worlds::busy, Worlds::full, Worlds::still, Worlds::alone, () -> Worlds.alongEight(9)};

    public static void main(String[] args) {
        aheadTakes();
        coldTakes();
        nightsTakes();
        freezesTakes();
        warnTakes();
        roundTakes();
        meetTakes();
        noLandIsAheadOfBad();
        byNoDaysItIsNow();
        byHundredDaysItIsAsDone();
        nothingIsFullAhead();
        theNightBeforeIsNone();
        freezesOnTheLastDay();
        freezesOnTheHundredthDay();
        whatIsFrozenNowCountsNot();
        warnsOfNone();
        warnsOfAll();
        warnsOfTheHundredthDay();
        roundOfOneWhoStays();
        roundFromTheHundredthDay();
        meetsOnTheLastDay();
        meetsOnTheHundredthDay();
        fewerThanTwoMeetNever();
        whereTheyAreNowIsNoMeeting();
        Due.end("AheadEdgesTest");
    }

    // "AHEAD by n DAYS (0 to 100)"; promise 15: "BAD"
    private static void aheadTakes() {
        Edge.takes("ahead, walker", Worlds::busy, (x, v) -> x.ahead(v, 5, 0), 0, 2);
        Edge.takes("ahead, the only walker", Worlds::alone, (x, v) -> x.ahead(v, 5, 0), 0, 0);
        Edge.takes("ahead, n", Worlds::busy, (x, v) -> x.ahead(2, v, 0), 0, 100);
        Edge.takes("ahead, n, the night before", Worlds::busy, (x, v) -> x.ahead(0, v, 1), 0, 100);
        Edge.takes("ahead, what", Worlds::busy, (x, v) -> x.ahead(0, 5, v), 0, 1);
        Edge.refused("ahead without a LAND", Worlds::none, x -> x.ahead(0, 0, 0), Due.BAD);
        Edge.refused("ahead without WALKERS", Worlds::still, x -> x.ahead(0, 0, 0), Due.BAD);
    }

    private static void coldTakes() {
        for (int what = 0; what <= 2; what++) {
            int asked = what;
            Edge.takes("cold, n, what " + what, Worlds::busy, (x, v) -> x.cold(v, asked), 0, 100);
        }
        Edge.takes("cold, what", Worlds::busy, (x, v) -> x.cold(5, v), 0, 2);
        Edge.takes("cold, n, nobody going", Worlds::still, (x, v) -> x.cold(v, 0), 0, 100);
    }

    private static void nightsTakes() {
        Edge.takes("nights, village", Worlds::busy, (x, v) -> x.nights(v, 5), 0, 4);
        Edge.takes("nights, village of eight", Worlds::full, (x, v) -> x.nights(v, 5), 0, 7);
        Edge.takes("nights, n", Worlds::busy, (x, v) -> x.nights(4, v), 0, 100);
        Edge.refused("nights without a LAND", Worlds::none, x -> x.nights(0, 0), Due.BAD);
    }

    // "the first of the next n DAYS (1 to 100; 0 on)"
    private static void freezesTakes() {
        Edge.takes("freezes, village", Worlds::busy, (x, v) -> x.freezes(v, 5), 0, 4);
        Edge.takes("freezes, village of eight", Worlds::full, (x, v) -> x.freezes(v, 5), 0, 7);
        Edge.takes("freezes, n", Worlds::busy, (x, v) -> x.freezes(0, v), 1, 100);
        Edge.takes("freezes, n, where it is NONE", Worlds::still, (x, v) -> x.freezes(0, v), 1, 100);
        Edge.refused("freezes without a LAND", Worlds::none, x -> x.freezes(0, 1), Due.BAD);
    }

    // "BAD: k not -1 to 7"
    private static void warnTakes() {
        Edge.takes("warn", Worlds::busy, (x, v) -> x.warn(v), -1, 7);
        Edge.takes("warn, of eight", Worlds::full, (x, v) -> x.warn(v), -1, 7);
        Edge.takes("warn, of none", Worlds::still, (x, v) -> x.warn(v), -1, 7);
    }

    private static void roundTakes() {
        Edge.takes("round", Worlds::busy, (x, v) -> x.round(v), 0, 2);
        Edge.takes("round of the only one", Worlds::alone, (x, v) -> x.round(v), 0, 0);
        Edge.refused("round without a LAND", Worlds::none, x -> x.round(0), Due.BAD);
        Edge.refused("round without WALKERS", Worlds::still, x -> x.round(0), Due.BAD);
    }

    // "the first of the next n DAYS (1 to 100) on which two sleep in one VILLAGE"
    private static void meetTakes() {
        Edge.takes("meet, n", Worlds::busy, (x, v) -> x.meet(v, 0), 1, 100);
        Edge.takes("meet, n, where it is NONE", Worlds::still, (x, v) -> x.meet(v, 1), 1, 100);
        Edge.takes("meet, what", Worlds::busy, (x, v) -> x.meet(5, v), 0, 1);
    }

    // promises 16, 19, 26: "STATE: no LAND (ahead of BAD)"
    private static void noLandIsAheadOfBad() {
        for (int v : new int[] {-2, -1, 0, 1, 2, 3, 7, 8, 100, 101, Integer.MIN_VALUE, Integer.MAX_VALUE}) {
            Edge.refused("cold(" + v + ", 0)", Worlds::none, x -> x.cold(v, 0), Due.STATE);
            Edge.refused("cold(0, " + v + ")", Worlds::none, x -> x.cold(0, v), Due.STATE);
            Edge.refused("warn(" + v + ")", Worlds::none, x -> x.warn(v), Due.STATE);
            Edge.refused("meet(" + v + ", 0)", Worlds::none, x -> x.meet(v, 0), Due.STATE);
            Edge.refused("meet(1, " + v + ")", Worlds::none, x -> x.meet(1, v), Due.STATE);
        }
    }

    private static void byNoDaysItIsNow() {
        for (Edge.World land : LANDS) {
            holdAhead(land.anew(), 0, land.anew());
        }
    }

    private static void byHundredDaysItIsAsDone() {
        for (int n : new int[] {1, 2, 99, 100}) {
            for (Edge.World land : new Edge.World[] {Worlds::busy, Worlds::still, Worlds::alone}) {
                WinterWalk done = land.anew();
                Worlds.pass(done, n);
                holdAhead(land.anew(), n, done);
            }
            WinterWalk late = Due.told(MEET_LATE);
            Worlds.pass(late, n);
            holdAhead(Due.told(MEET_LATE), n, late);
        }
    }

    private static void holdAhead(WinterWalk x, int n, WinterWalk done) {
        for (int w = 0; w < x.count(3); w++) {
            Due.due("where " + w + " is in " + n, x.ahead(w, n, 0), done.walker(w, 0));
            Due.due("where " + w + " was the night before in " + n, x.ahead(w, n, 1), done.walker(w, 1));
        }
        int frozen = 0;
        for (int v = 0; v < x.count(1); v++) {
            Due.due("NIGHTS in " + v + " in " + n, x.nights(v, n), done.village(v, 4));
            frozen |= done.village(v, 3) > 0 ? 1 << v : 0;
        }
        Due.due("GAIN in " + n, x.cold(n, 0), done.count(5));
        Due.due("PAID in " + n, x.cold(n, 1), done.count(6));
        Due.due("frozen in " + n, x.cold(n, 2), frozen);
    }

    /** That no more than 999 DAYS can be gone holds for what is done, not for what is foretold. */
    private static void nothingIsFullAhead() {
        WinterWalk x = Worlds.alone();
        Worlds.pass(x, 999);
        Due.due("GAIN", x.cold(100, 0), 3 * 1099);
        Due.due("PAID", x.cold(100, 1), 4 * 1099);
        Due.due("NIGHTS", x.nights(0, 100), 1099);
        Due.due("freezes", x.freezes(0, 100), 0);
        Due.due("round", x.round(0), 1);
        Due.due("year", x.year(100, 1, 0), 300);
        Due.due("bid", x.bid(0, 50, 1), 150);
    }

    // promise 15: "1 where it was the night before (NONE)"
    private static void theNightBeforeIsNone() {
        for (int w = 0; w < 3; w++) {
            WinterWalk x = Due.told("f1;g0,0;g0,0;r0,1;o0;t1;e0;");
            Due.due("not gone yet", x.ahead(w, 0, 1), Due.NONE);
            Due.due("gone once", x.ahead(w, 1, 1), x.walker(w, 0));
        }
        WinterWalk x = Worlds.alone();
        Due.due("who stays was there", x.ahead(0, 1, 1), 0);
    }

    private static void freezesOnTheLastDay() {
        WinterWalk x = Worlds.alongEight(1);
        for (int v = 0; v < 8; v++) {
            int day = Math.max(0, v - 2);
            Due.due("freezes(" + v + ", 100)", x.freezes(v, 100), day);
            Due.due("on the last DAY that is asked, " + v, x.freezes(v, day + 1), day);
            if (day > 0) {
                Due.due("on the first that is not, " + v, x.freezes(v, day), Due.NONE);
            }
        }
    }

    private static void freezesOnTheHundredthDay() {
        Due.due("on DAY 98", Worlds.sisterHeldBack(50, 2).freezes(3, 99), 98);
        Due.due("on DAY 99", Worlds.sisterHeldBack(50, 1).freezes(3, 100), 99);
        Due.due("not in 99 DAYS", Worlds.sisterHeldBack(50, 1).freezes(3, 99), Due.NONE);
        Due.due("on DAY 100", Worlds.sisterHeldBack(50, 0).freezes(3, 100), Due.NONE);
    }

    // "behind which a VILLAGE is frozen"
    private static void whatIsFrozenNowCountsNot() {
        WinterWalk x = Worlds.alongEight(2);
        x.days(2);
        Due.due("FROST of 1", x.village(1, 3), 1);
        Due.due("it thaws on the next DAY", x.freezes(1, 1), Due.NONE);
        Due.due("FROST of 2", x.village(2, 3), 2);
        Due.due("it does not yet", x.freezes(2, 1), 0);
    }

    // "those that do not, none"; promise 19: "NONE: no such one"
    private static void warnsOfNone() {
        WinterWalk x = Worlds.still();
        Due.due("how many", x.warn(-1), 0);
        for (int k = 0; k <= 7; k++) {
            Due.due("warn(" + k + ")", x.warn(k), Due.NONE);
        }
        WinterWalk one = Worlds.alone();
        Due.due("how many", one.warn(-1), 1);
        Due.due("the only one", one.warn(0), 0);
        Due.due("no other", one.warn(1), Due.NONE);
        Due.due("nor a last", one.warn(7), Due.NONE);
    }

    // "of several on one DAY by numbers"
    private static void warnsOfAll() {
        WinterWalk x = Worlds.alongEight(1);
        Due.due("how many", x.warn(-1), 8);
        for (int k = 0; k <= 7; k++) {
            Due.due("warn(" + k + ")", x.warn(k), k);
        }
        WinterWalk star = Due.told("f1;" + "g0,0;".repeat(8) + "r7,0;r7,1;r7,2;r7,3;r7,4;r7,5;r7,6;o3;");
        Due.due("all on one DAY", star.warn(-1), 8);
        for (int k = 0; k <= 7; k++) {
            Due.due("by numbers, warn(" + k + ")", star.warn(k), k);
        }
    }

    // "in the next 100 DAYS"
    private static void warnsOfTheHundredthDay() {
        WinterWalk in = Worlds.sisterHeldBack(50, 1);
        Due.due("3 freezes on DAY 99", in.warn(-1), 4);
        Due.due("it is the last", in.warn(3), 3);
        WinterWalk out = Worlds.sisterHeldBack(50, 0);
        Due.due("3 freezes on DAY 100", out.warn(-1), 3);
        Due.due("it is none", out.warn(3), Due.NONE);
    }

    private static void roundOfOneWhoStays() {
        for (int v = 0; v < 8; v++) {
            Due.due("in " + v, Due.told(Worlds.EIGHT + "o" + v + ";").round(0), 1 << v);
        }
    }

    // "on the DAYS 100 to 199 from now on"
    private static void roundFromTheHundredthDay() {
        // she comes to 3 first on DAY 199, in the second LAND on DAY 200
        Due.due("DAY 199 is one of them", Worlds.sisterHeldBack(100, 2).round(0), 1 + 2 + 4 + 8);
        Due.due("DAY 200 is not", Worlds.sisterHeldBack(100, 1).round(0), 1 + 2 + 4);
        WinterWalk x = Worlds.sisterHeldBack(51, 1);
        int seen = 0;
        Worlds.pass(x, 100);
        for (int d = 100; d <= 199; d++) {
            x.days(1);
            seen |= 1 << x.walker(0, 0);
        }
        Due.due("as done", Worlds.sisterHeldBack(51, 1).round(0), seen);
        Due.due("DAY 99 is none of them", seen & 4, 0);
    }

    private static void meetsOnTheLastDay() {
        String text = "f1;g0,0;g0,0;r0,1;o0;s1;";
        for (int what = 0; what <= 1; what++) {
            int due = what == 0 ? 2 : 1;
            Due.due("not yet, what " + what, Due.told(text).meet(2, what), Due.NONE);
            Due.due("on the last DAY, what " + what, Due.told(text).meet(3, what), due);
            Due.due("later on the same, what " + what, Due.told(text).meet(100, what), due);
        }
    }

    private static void meetsOnTheHundredthDay() {
        WinterWalk x = Due.told(MEET_LATE);
        Worlds.pass(x, 10);
        Due.due("on DAY 100", x.meet(100, 0), Due.NONE);
        Due.due("in no VILLAGE", x.meet(100, 1), Due.NONE);
        x.days(1);
        Due.due("on DAY 99", x.meet(100, 0), 99);
        Due.due("in 1", x.meet(100, 1), 1);
        Due.due("not in 99 DAYS", x.meet(99, 0), Due.NONE);
        Worlds.pass(x, 99);
        Due.due("not ahead of it", x.walker(0, 0) == x.walker(1, 0) ? 1 : 0, 0);
        x.days(1);
        Due.due("as done, the one", x.walker(0, 0), 1);
        Due.due("as done, the other", x.walker(1, 0), 1);
    }

    private static void fewerThanTwoMeetNever() {
        for (int what = 0; what <= 1; what++) {
            Due.due("nobody", Worlds.still().meet(100, what), Due.NONE);
            Due.due("one", Worlds.alone().meet(100, what), Due.NONE);
            Due.due("two in one VILLAGE", Due.told("f1;g0,0;o0;t0;").meet(1, what), 0);
            Due.due("three in one VILLAGE", Due.told("f1;g0,0;o0;t0;e0;").meet(1, what), 0);
            Due.due("the last two of three", Due.told("f1;g0,0;g0,0;o0;t1;e1;").meet(1, what), what);
            Due.due("the first and the last", Due.told("f1;g0,0;g0,0;o1;t0;e1;").meet(1, what), what);
            Due.due("the first two", Due.told("f1;g0,0;g0,0;o1;t1;e0;").meet(1, what), what);
        }
    }

    private static void whereTheyAreNowIsNoMeeting() {
        WinterWalk x = Due.told("f1;g0,0;g0,0;g0,0;r0,1;r0,2;t0;t0;");
        Due.due("they part", x.meet(1, 0), Due.NONE);
        Due.due("and come back", x.meet(2, 0), 1);
        Due.due("to 0", x.meet(2, 1), 0);
    }
}
