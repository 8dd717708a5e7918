/** Promises 24 to 29: laws that fit, rounds, meetings, frost read back, lateness, years. */
public final class RiddlesTest {
    private static final String LINE = "f1;g0,9;g0,8;g0,7;r0,1;r1,2;";
    private static final String PAIR = "f1;g1,0;g3,0;r0,1;";

    public static void main(String[] args) {
        lawsFit();
        fitsIsRefused();
        rounds();
        roundsAtTheirEdges();
        frostAtItsEdges();
        meetings();
        frostIsReadBack();
        sleptIsRefused();
        lateness();
        lateIsRefused();
        years();
        yearIsRefused();
        Due.end("RiddlesTest");
    }

    private static void lawsFit() {
        WinterWalk x = Due.told(LINE + "o1;");
        Due.lay(x, 0, 0, 0, 1, 0, 1);
        Due.due("as an old one", x.fits(0, 0, 0, 4), 2);
        Due.due("two nights", x.fits(0, 0, 0, 2), 2 + 4 + 8 + 16);
        Due.lay(x, 0, 1, 0, 1, 1, 0);
        Due.due("as a slow one", x.fits(0, 0, 0, 4), 4);
        Due.lay(x, 0, 2, 0, 1, 2, 1, 0);
        Due.due("as one who likes other roads, or a sister", x.fits(0, 0, 0, 5), 8 + 16);
        Due.lay(x, 0, 0, 1, 1, 1);
        Due.due("as an early one", x.fits(0, 0, 0, 3), 32);
        Due.lay(x, 0, 0, 2);
        Due.due("as none", x.fits(0, 0, 0, 1), 0);
        Due.lay(x, 0, 2, 9, -1, 0, 1, 1);
        Due.due("no VILLAGE at all", x.fits(0, 0, 0, 1), 0);
        Due.due("nor below 0", x.fits(0, 0, 1, 1), 0);
        Due.due("from a place on", x.fits(0, 0, 2, 3), 4);
        WinterWalk two = Due.told("f1;g0,0;g0,0;g0,0;r0,1;r0,2;t0;o0;");
        Due.lay(two, 0, 0, 2);
        Due.due("others as they are: a sister, behind a sister", two.fits(1, 0, 0, 1), 16);
        WinterWalk day = Due.told(LINE + "o1;");
        day.days(2);
        Due.lay(day, 0, 0, 1);
        Due.due("on DAY 2 a slow one stays", day.fits(0, 0, 0, 1) & 6, 4);
        WinterWalk home = Due.told("f1;g0,0;o0;");
        home.row(0, 0, 40);
        Due.due("24 nights", home.fits(0, 0, 16, 24), 62);
        WinterWalk last = Due.told(PAIR + "o0;");
        last.row(7, 0, 40);
        last.set(7, 39, 1);
        Due.due("the last ITEM of the last ROW", last.fits(0, 7, 39, 1), 2 + 4 + 8 + 16);
    }

    private static void fitsIsRefused() {
        WinterWalk x = Due.told(LINE + "o1;");
        x.row(0, 0, 10);
        Due.due("walker", x.fits(1, 0, 0, 1), Due.BAD);
        Due.due("row", x.fits(0, 8, 0, 1), Due.BAD);
        Due.due("row below", x.fits(0, -1, 0, 1), Due.BAD);
        Due.due("n 0", x.fits(0, 0, 0, 0), Due.BAD);
        Due.due("n 25", x.fits(0, 0, 0, 25), Due.BAD);
        Due.due("missing", x.fits(0, 1, -1, 1), Due.NULL);
        Due.due("beyond the end", x.fits(0, 0, 0, 11), Due.PLACE);
        Due.due("place below", x.fits(0, 0, -1, 1), Due.PLACE);
        Due.due("place far beyond", x.fits(0, 0, Integer.MAX_VALUE, 24), Due.PLACE);
        Due.due("BAD is ahead of NULL", x.fits(0, 1, 0, 25), Due.BAD);
    }

    private static void rounds() {
        Due.due("of an old one", Due.told(LINE + "o2;").round(0), 3);
        Due.due("of one who likes other roads", Due.told(LINE + "l2;").round(0), 7);
        Due.due("of one who stays", Due.told("f1;g0,0;g0,0;o1;").round(0), 2);
        WinterWalk x = Due.told(LINE + "o2;t0;");
        Due.due("of a sister, whom the nights of the old one keep from 0", x.round(1), 6);
        Due.due("of none", x.round(2), Due.BAD);
        Due.due("of one below", x.round(-1), Due.BAD);
        WinterWalk shut = Due.told(LINE + "l1;");
        shut.door(0, 1);
        Due.due("with a door shut", shut.round(0), 6);
        WinterWalk far = Due.told("f1;g0,0;g0,1;g0,2;g0,3;r0,1;r1,2;r2,3;o0;");
        Due.due("what was ahead of it is gone", far.round(0), 12);
    }

    private static void roundsAtTheirEdges() {
        // she is in 1 last on DAY 100, in 2 last on DAY 99, and in 0 and 3 from then on
        WinterWalk x = Worlds.sisterHeldBack(51, 1);
        Due.due("where she is", x.walker(0, 0), 2);
        Due.due("DAY 99", x.ahead(0, 100, 0), 2);
        Due.due("from DAY 100 on", x.round(0), 1 + 2 + 8);
        // in 0 she is for the first time on DAY 199, in another LAND not before DAY 200
        Due.due("up to DAY 199", Worlds.sisterHeldBack(100, 1).round(0), 1 + 2 + 4);
        Due.due("not DAY 200", Worlds.sisterHeldBack(100, 0).round(0), 2 + 4);
    }

    private static void frostAtItsEdges() {
        // 3 freezes when she comes to 0 again: on DAY 99, on DAY 100
        WinterWalk in = Worlds.sisterHeldBack(50, 1);
        Due.due("on DAY 99", in.freezes(3, 100), 99);
        Due.due("not ahead of it", in.freezes(3, 99), Due.NONE);
        Due.due("all are warned", in.warn(-1), 4);
        Due.due("it the last", in.warn(3), 3);
        WinterWalk out = Worlds.sisterHeldBack(50, 0);
        Due.due("on DAY 100", out.freezes(3, 100), Due.NONE);
        Due.due("three are warned", out.warn(-1), 3);
        Due.due("no fourth", out.warn(3), Due.NONE);
    }

    private static void meetings() {
        meets(LINE + "o0;o2;", 1, 0, 1);
        meets(LINE + "o0;o1;", 100, Due.NONE, Due.NONE);
        meets(LINE + "o0;", 100, Due.NONE, Due.NONE);
        meets(LINE, 100, Due.NONE, Due.NONE);
        meets("f1;g0,0;g0,0;o1;o1;", 1, 0, 1);
        // the slow one stays on DAY 2, and the other catches it up
        meets("f1;g0,0;g0,0;r0,1;o0;s1;", 2, Due.NONE, Due.NONE);
        meets("f1;g0,0;g0,0;r0,1;o0;s1;", 3, 2, 1);
        meets("f1;g0,0;g0,0;g0,0;r0,1;o2;s1;o0;", 100, 2, 1);
        WinterWalk x = Due.told(LINE + "o0;o2;");
        for (int n : new int[] {0, 101, -1, Integer.MAX_VALUE}) {
            Due.due("meet(" + n + ", 0)", x.meet(n, 0), Due.BAD);
        }
        Due.due("meet(1, 2)", x.meet(1, 2), Due.BAD);
        Due.due("meet(1, -1)", x.meet(1, -1), Due.BAD);
    }

    private static void meets(String text, int n, int when, int where) {
        WinterWalk x = Due.told(text);
        Due.due(text + " meet(" + n + ", 0)", x.meet(n, 0), when);
        Due.due(text + " meet(" + n + ", 1)", x.meet(n, 1), where);
    }

    private static void frostIsReadBack() {
        // a line of four: from 0 to 1, from 1 to 2, from 2 to 3, from 3 to 2
        WinterWalk x = Due.told("f1;g0,0;g0,1;g0,2;g0,3;r0,1;r1,2;r2,3;o0;t0;e3;");
        Due.lay(x, 0, 2, 7, 14, 12, 14);
        Due.due("from 0", x.slept(0, 0, 0, 1, 0), 1);
        Due.due("the first", x.slept(0, 0, 0, 1, 1), 0);
        Due.due("three DAYS", x.slept(0, 0, 0, 3, 1), 0);
        Due.due("from 1 or 3", x.slept(0, 0, 1, 1, 0), 2);
        Due.due("the first of these", x.slept(0, 0, 1, 1, 1), 1);
        Due.due("then 3", x.slept(0, 0, 1, 3, 0), 2);
        Due.due("from 2", x.slept(0, 0, 2, 2, 1), 2);
        Due.lay(x, 1, 0, 0, 15, 7 + 16);
        Due.due("it never thaws", x.slept(0, 1, 0, 1, 0), 0);
        Due.due("NONE", x.slept(0, 1, 0, 1, 1), Due.NONE);
        Due.due("all four", x.slept(0, 1, 1, 1, 0), 0);
        Due.due("a VILLAGE that is not there", x.slept(0, 1, 2, 1, 0), 0);
        // what is frozen now does not count, nor do the others
        x.days(3);
        Due.due("from 0, later", x.slept(0, 0, 0, 3, 1), 0);
        // longer frost shows where it came from
        WinterWalk y = Due.told("f3;g0,0;g0,1;g0,2;g0,3;r0,1;r1,2;r2,3;l2;");
        y.days(1);
        Due.due("it is in 3, from 2", y.walker(0, 1), 2);
        Due.lay(y, 0, 0, 12, 14, 15);
        Due.due("as if it had not gone yet: from 2", y.slept(0, 0, 0, 3, 1), 2);
        Due.lay(y, 0, 0, 14, 7);
        Due.due("from 3 back to 2, then on to 1", y.slept(0, 0, 0, 2, 1), 3);
        Due.lay(y, 0, 0, 14, 12);
        Due.due("from 1 to 2, then on to 3", y.slept(0, 0, 0, 2, 1), 1);
        // NIGHTS are as they are
        WinterWalk z = Due.told("f1;g0,0;g0,0;g0,0;r0,1;r0,2;t0;");
        z.days(1);
        Due.lay(z, 0, 0, 5);
        Due.due("to 2, as in 1 somebody slept", z.slept(0, 0, 0, 1, 1), 0);
        Due.due("only so", z.slept(0, 0, 0, 1, 0), 1);
        WinterWalk slow = Due.told("f1;g0,0;g0,0;g0,0;r0,1;s0;");
        slow.days(2);
        Due.lay(slow, 0, 0, 4, 3);
        Due.due("DAY is as it is: who is in 2 stays there", slow.slept(0, 0, 0, 1, 0), 1);
        Due.due("and the others where they are", slow.slept(0, 0, 1, 1, 0), 2);
    }

    private static void sleptIsRefused() {
        WinterWalk x = Due.told(LINE + "o1;");
        x.row(0, 0, 10);
        Due.due("walker", x.slept(1, 0, 0, 1, 0), Due.BAD);
        Due.due("row", x.slept(0, 8, 0, 1, 0), Due.BAD);
        Due.due("n 0", x.slept(0, 0, 0, 0, 0), Due.BAD);
        Due.due("n 13", x.slept(0, 0, 0, 13, 0), Due.BAD);
        Due.due("what 2", x.slept(0, 0, 0, 1, 2), Due.BAD);
        Due.due("what -1", x.slept(0, 0, 0, 1, -1), Due.BAD);
        Due.due("missing", x.slept(0, 1, -1, 1, 0), Due.NULL);
        Due.due("beyond the end", x.slept(0, 0, 0, 11, 0), Due.PLACE);
        Due.due("place below", x.slept(0, 0, -1, 1, 0), Due.PLACE);
        Due.due("place far beyond", x.slept(0, 0, Integer.MAX_VALUE, 12, 0), Due.PLACE);
        Due.due("BAD is ahead of NULL", x.slept(0, 1, 0, 1, 2), Due.BAD);
    }

    private static void lateness() {
        WinterWalk x = Due.told(PAIR + "o0;");
        late(x, 5, 0, 0, 1, 1);
        late(x, 5, 0, 1, 0, 1);
        late(x, 5, 1, 1, 1, 2);
        late(x, 3, 2, 0, 29, 50);
        late(x, 3, 2, 1, 21, 50);
        late(x, 10, 3, 1, 1, 1);
        late(x, 10, 3, 0, 0, 1);
        late(x, 0, 6, 0, 1, 1);
        late(x, 0, 6, 1, 0, 1);
        late(x, 1, 6, 1, 11529, 31250);
        late(x, 7, 1, 1, 7, 10);
        WinterWalk slow = Due.told(PAIR + "s0;");
        late(slow, 5, 3, 0, 5, 8);
        late(slow, 5, 3, 1, 3, 8);
        WinterWalk two = Due.told("f1;g0,0;g0,0;g0,0;r0,1;r0,2;t0;t0;");
        Due.due("alone a sister goes to 1", two.late(1, 10, 1, 1, 0), 1);
        Due.due("with the other she would not", two.ahead(1, 1, 0), 2);
        WinterWalk likes = Due.told(LINE + "l1;");
        likes.days(2);
        Due.due("it knows where it was", likes.late(0, 10, 1, 2, 0), 1);
        WinterWalk behind = Due.told(LINE + "o0;l1;");
        behind.days(2);
        Due.due("and where itself was, not another", behind.late(1, 10, 1, 2, 0), 1);
    }

    private static void late(WinterWalk x, int p, int n, int village, long above, long below) {
        String call = "late(0, " + p + ", " + n + ", " + village + ", ";
        Due.due(call + "0)", x.late(0, p, n, village, 0), above);
        Due.due(call + "1)", x.late(0, p, n, village, 1), below);
    }

    private static void lateIsRefused() {
        WinterWalk x = Due.told(PAIR + "o0;");
        for (int strange : Due.STRANGE) {
            Due.due("walker " + strange, x.late(strange, 0, 0, 0, 0), Due.BAD);
            Due.due("p " + strange, x.late(0, strange, 0, 0, 0), Due.BAD);
            Due.due("n " + strange, x.late(0, 0, strange, 0, 0), Due.BAD);
            Due.due("village " + strange, x.late(0, 0, 0, strange, 0), Due.BAD);
            Due.due("what " + strange, x.late(0, 0, 0, 0, strange), Due.BAD);
        }
        Due.due("p 11", x.late(0, 11, 0, 0, 0), Due.BAD);
        Due.due("n 7", x.late(0, 0, 7, 0, 0), Due.BAD);
        Due.due("village 2", x.late(0, 0, 0, 2, 0), Due.BAD);
        Due.due("what 2", x.late(0, 0, 0, 0, 2), Due.BAD);
        Due.due("walker 1", x.late(1, 0, 0, 0, 0), Due.BAD);
    }

    private static void years() {
        // draws by SEED 1, by the rest by 2: 1 1 1 0 0 0 0 0 1 1
        int[] gains = {0, 1, 2, 3, 6, 9, 12, 15, 18, 19, 20};
        int[] most = {0, 0, 0, 0, 0, 0, 0, 1, 1, 1, 0};
        WinterWalk x = Due.told(PAIR + "o0;");
        for (int n = 0; n <= 10; n++) {
            Due.due("year(" + n + ", 1, 0)", x.year(n, 1, 0), gains[n]);
            Due.due("year(" + n + ", 1, 1)", x.year(n, 1, 1), most[n]);
        }
        x.days(3);
        Due.due("GAIN of these DAYS alone", x.year(1, 1, 0), 1);
        Due.due("NIGHTS of all", x.year(0, 1, 1), 1);
        x.door(0, 1);
        x.door(1, 1);
        Due.due("what is shut is opened for a DAY: from 1 to 1", x.year(3, 1, 0), 9);
        Due.due("then to 0, and no more", x.year(5, 1, 0), 11);
        Due.due("the doors are as they were", x.village(0, 2) + x.village(1, 2), 2);
        // 999999 times 16807 by 2147483647 leaves 1774597664, and that by 3 leaves 2
        WinterWalk three = Due.told("f1;g1,0;g2,0;g4,5;r0,1;r0,2;o0;");
        Due.due("the greatest SEED", three.year(1, 999999, 0), 2);
    }

    private static void yearIsRefused() {
        WinterWalk x = Due.told(PAIR + "o0;");
        Due.due("n -1", x.year(-1, 1, 0), Due.BAD);
        Due.due("n 101", x.year(101, 1, 0), Due.BAD);
        Due.due("seed 0", x.year(1, 0, 0), Due.BAD);
        Due.due("seed 1000000", x.year(1, 1000000, 0), Due.BAD);
        Due.due("seed below", x.year(1, Integer.MIN_VALUE, 0), Due.BAD);
        Due.due("what 2", x.year(1, 1, 2), Due.BAD);
        Due.due("what -1", x.year(1, 1, -1), Due.BAD);
    }
}
