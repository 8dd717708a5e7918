/** Promises 15 to 19: where each will be, what is gained, paid, slept, frozen. */
public final class AheadTest {
    // old one at the near end of a line, whose far end has no road at all
    private static final String LINE = "f2;g1,0;c2,3;g5,9;g7,9;r0,1;r1,2;o0;";

    public static void main(String[] args) {
        aheadAndCold();
        nightsAndFrost();
        warnings();
        foretellingChangesNothing();
        wrongOnes();
        Due.end("AheadTest");
    }

    private static void aheadAndCold() {
        WinterWalk x = Due.told(LINE);
        int[] places = {0, 1, 2, 1, 2, 1};
        int[] before = {Due.NONE, 0, 1, 2, 1, 2};
        int[] gains = {0, -2, 3, 1, 6, 4};
        int[] paid = {0, 3, 12, 15, 24, 27};
        int[] frozen = {0, 7, 6, 7, 6, 7};
        for (int n = 0; n <= 5; n++) {
            Due.due("ahead(0, " + n + ", 0)", x.ahead(0, n, 0), places[n]);
            Due.due("ahead(0, " + n + ", 1)", x.ahead(0, n, 1), before[n]);
            Due.due("cold(" + n + ", 0)", x.cold(n, 0), gains[n]);
            Due.due("cold(" + n + ", 1)", x.cold(n, 1), paid[n]);
            Due.due("cold(" + n + ", 2)", x.cold(n, 2), frozen[n]);
        }
        Due.due("ahead(0, 100, 0)", x.ahead(0, 100, 0), 2);
        Due.due("cold(100, 0)", x.cold(100, 0), 150);
        Due.due("cold(100, 1)", x.cold(100, 1), 600);
        x.days(3);
        Due.due("GAIN by then has what was gained", x.cold(2, 0), 4);
        Due.due("PAID by then, too", x.cold(2, 1), 27);
        Due.due("now", x.cold(0, 2), 7);
        Due.due("the night before, now", x.ahead(0, 0, 1), 2);
    }

    private static void nightsAndFrost() {
        WinterWalk x = Due.told(LINE);
        Due.due("nights(1, 0)", x.nights(1, 0), 0);
        Due.due("nights(1, 5)", x.nights(1, 5), 3);
        Due.due("nights(2, 5)", x.nights(2, 5), 2);
        Due.due("nights(0, 100)", x.nights(0, 100), 0);
        x.days(1);
        Due.due("nights(1, 0) then", x.nights(1, 0), 1);
        WinterWalk y = Due.told("f1;g0,0;g0,1;g0,2;g0,3;r0,1;r1,2;r2,3;l0;");
        Due.due("a neighbour freezes", y.freezes(0, 100), 0);
        Due.due("freezes(1, 1)", y.freezes(1, 1), 0);
        Due.due("freezes(2, 1)", y.freezes(2, 1), 0);
        Due.due("freezes(3, 1)", y.freezes(3, 1), Due.NONE);
        Due.due("freezes(3, 2)", y.freezes(3, 2), 1);
        Due.due("freezes(3, 100)", y.freezes(3, 100), 1);
        WinterWalk z = Due.told("f9;g0,0;g0,0;o0;");
        Due.due("no road, no frost", z.freezes(1, 100), Due.NONE);
        Due.due("where it stays", z.freezes(0, 1), 0);
        WinterWalk u = Due.told("f3;g0,0;g0,0;g0,0;r0,1;r1,2;");
        Due.due("nobody goes", u.freezes(0, 100), Due.NONE);
    }

    private static void warnings() {
        WinterWalk x = Due.told("f1;g0,3;g0,2;g0,1;g0,0;g0,9;r3,2;r2,1;r1,0;l3;");
        order(x, 1, 2, 3, 0);
        x.door(1, 1);
        order(x, 1, 2, 3);
        x.door(2, 1);
        order(x, 2, 3);
        WinterWalk none = Due.told("f1;g0,0;");
        order(none);
        WinterWalk all = Due.told("f1;g0,0;g0,0;g0,0;g0,0;g0,0;g0,0;g0,0;g0,9;"
                + "r0,7;r1,7;r2,7;r3,7;r4,7;r5,7;r6,7;o6;");
        order(all, 0, 1, 2, 3, 4, 5, 6, 7);
    }

    private static void order(WinterWalk x, int... villages) {
        Due.due("warn(-1)", x.warn(-1), villages.length);
        for (int k = 0; k < 8; k++) {
            Due.due("warn(" + k + ")", x.warn(k), k < villages.length ? villages[k] : Due.NONE);
        }
    }

    private static void foretellingChangesNothing() {
        WinterWalk x = Due.told(LINE);
        x.days(4);
        x.door(0, 1);
        Due.lay(x, 0, 0, 2, 1);
        x.ask(0, 0);
        String ahead = Due.seen(x);
        x.ahead(0, 50, 0);
        x.cold(50, 2);
        x.nights(1, 50);
        x.freezes(3, 100);
        x.warn(2);
        x.lure(3, 100);
        x.keepsAway(1, 100, 0);
        x.bid(1, 50, 1);
        x.rests(50);
        x.fits(0, 0, 0, 2);
        x.round(0);
        x.meet(100, 1);
        x.slept(0, 0, 0, 2, 0);
        x.late(0, 3, 6, 1, 0);
        x.year(100, 5, 1);
        Due.same("nothing changes", Due.seen(x), ahead);
    }

    private static void wrongOnes() {
        WinterWalk x = Due.told(LINE);
        for (int strange : Due.STRANGE) {
            Due.due("ahead, walker " + strange, x.ahead(strange, 0, 0), Due.BAD);
            Due.due("ahead, n " + strange, x.ahead(0, strange, 0), Due.BAD);
            Due.due("ahead, what " + strange, x.ahead(0, 0, strange), Due.BAD);
            Due.due("cold, n " + strange, x.cold(strange, 0), Due.BAD);
            Due.due("cold, what " + strange, x.cold(0, strange), Due.BAD);
            Due.due("nights, village " + strange, x.nights(strange, 0), Due.BAD);
            Due.due("nights, n " + strange, x.nights(0, strange), Due.BAD);
            Due.due("freezes, village " + strange, x.freezes(strange, 1), Due.BAD);
            Due.due("freezes, n " + strange, x.freezes(0, strange), Due.BAD);
        }
        Due.due("ahead(0, 101, 0)", x.ahead(0, 101, 0), Due.BAD);
        Due.due("ahead(1, 0, 0)", x.ahead(1, 0, 0), Due.BAD);
        Due.due("ahead(0, 0, 2)", x.ahead(0, 0, 2), Due.BAD);
        Due.due("cold(101, 0)", x.cold(101, 0), Due.BAD);
        Due.due("cold(0, 3)", x.cold(0, 3), Due.BAD);
        Due.due("nights(4, 0)", x.nights(4, 0), Due.BAD);
        Due.due("nights(0, 101)", x.nights(0, 101), Due.BAD);
        Due.due("freezes(0, 0)", x.freezes(0, 0), Due.BAD);
        Due.due("freezes(0, 101)", x.freezes(0, 101), Due.BAD);
        Due.due("warn(-2)", x.warn(-2), Due.BAD);
        Due.due("warn(8)", x.warn(8), Due.BAD);
    }
}
