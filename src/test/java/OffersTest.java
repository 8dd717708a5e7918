/** Promises 20 to 23: what lures, which doors keep away, the best OFFER, who rests. */
public final class OffersTest {
    private static final String FORK = "f1;g0,4;g6,2;g9,5;r0,1;r0,2;o0;";

    public static void main(String[] args) {
        lures();
        doors();
        bids();
        theGreatestOfferIsBest();
        restless();
        wrongOnes();
        Due.end("OffersTest");
    }

    private static void lures() {
        WinterWalk x = Due.told(FORK);
        Due.due("more than 5 wins from 2, 5 does as it is the first", x.lure(1, 1), 5);
        Due.due("2 has to be above 2", x.lure(2, 1), 3);
        Due.due("it comes back anyhow", x.lure(0, 2), 0);
        Due.due("not on the first DAY", x.lure(0, 1), Due.NONE);
        x.offer(2, 20);
        Due.due("20 does, as 1 is the first", x.lure(1, 1), 20);
        x.offer(1, 20);
        Due.due("2 cannot be above 20", x.lure(2, 1), Due.NONE);
        Due.due("nor in 100 DAYS", x.lure(2, 100), Due.NONE);
        x.door(1, 1);
        Due.due("a shut door lures nobody", x.lure(1, 100), Due.NONE);
        Due.due("but the other one then needs nothing", x.lure(2, 1), 0);
        Due.due("a sister is not lured", Due.told("f1;g0,0;g0,0;g0,0;r0,1;r0,2;t0;").lure(2, 2), Due.NONE);
    }

    private static void doors() {
        WinterWalk x = Due.told(FORK);
        away(x, 1, 1, 0, 0);
        away(x, 2, 1, 1, 4);
        x.door(2, 1);
        away(x, 2, 100, 0, 0);
        away(x, 1, 100, 1, 2);
        WinterWalk home = Due.told("f1;g0,0;o0;");
        away(home, 0, 1, Due.NONE, Due.NONE);
        // who is there has to have one OPEN, and may not come back
        WinterWalk pair = Due.told("f1;g0,0;g0,0;r0,1;o0;");
        away(pair, 0, 1, 0, 0);
        away(pair, 0, 2, 1, 1);
        away(pair, 1, 1, 1, 2);
        // of three ways to 4 none has to be shut if its own door is
        WinterWalk ways = Due.told("f1;g0,0;g0,3;g0,2;g0,1;g0,9;r0,1;r0,2;r0,3;r1,4;r2,4;r3,4;o0;");
        away(ways, 4, 1, 0, 0);
        away(ways, 4, 2, 1, 16);
        // three come at once, and one door keeps them all away
        WinterWalk inn = Due.told("f1;g0,0;g0,0;g0,0;g0,0;g0,0;r0,1;r0,2;r0,3;r0,4;o1;o2;o3;");
        away(inn, 0, 1, 1, 1);
        // of two doors either of which would do, the one with the lesser bit
        WinterWalk least = Due.told("f1;g0,0;g0,5;g0,0;g0,9;r0,1;r1,3;r0,2;o0;");
        away(least, 3, 2, 1, 2);
        away(least, 3, 3, 1, 2);
    }

    private static void away(WinterWalk x, int village, int n, int many, int which) {
        String call = "keepsAway(" + village + ", " + n + ", ";
        Due.due(call + "0)", x.keepsAway(village, n, 0), many);
        Due.due(call + "1)", x.keepsAway(village, n, 1), which);
    }

    private static void bids() {
        WinterWalk x = Due.told(FORK);
        best(x, 1, 1, 5, 1);
        best(x, 2, 1, 3, 6);
        best(x, 2, 3, 3, 12);
        best(x, 0, 1, 0, 0);
        best(x, 0, 2, 0, 0);
        x.offer(2, 9);
        best(x, 1, 1, 0, 0);
        x.offer(1, 12);
        best(x, 2, 1, 0, 0);
        // a sister is paid nothing, and comes all the same
        best(Due.told("f1;g0,9;g7,9;r0,1;t0;"), 1, 50, 0, 175);
        // of several the least: nobody ever comes
        best(Due.told("f1;g0,9;g7,9;o0;"), 1, 50, 0, 0);
        // who stays for ever is best paid least
        best(Due.told("f1;c3,4;o0;s0;"), 0, 10, 0, -60);
        // what was gained and paid before is not for these DAYS
        WinterWalk y = Due.told(FORK);
        y.days(6);
        best(y, 2, 1, 3, 6);
    }

    private static void theGreatestOfferIsBest() {
        // by 20 it comes to 2 at once, and goes on to 4, 0, 1 for ever; by less it goes
        // 3, 2, 5 round and round, and each time costs 9
        WinterWalk x = Due.told("f1;g0,20;g0,0;c9,0;g0,20;g0,0;g0,0;r5,2;r5,3;r2,3;r3,4;r4,0;r4,1;r0,1;l5;");
        best(x, 2, 50, 20, -29);
        Due.due("2 would have more by 20 alone", x.rests(50) & 4, 4);
        x.offer(2, 20);
        Due.due("and then rests", x.rests(50) & 4, 0);
    }

    private static void best(WinterWalk x, int village, int n, int offer, int much) {
        String call = "bid(" + village + ", " + n + ", ";
        Due.due(call + "0)", x.bid(village, n, 0), offer);
        Due.due(call + "1)", x.bid(village, n, 1), much);
    }

    private static void restless() {
        WinterWalk x = Due.told(FORK);
        Due.due("2 would pay less, 1 more", x.rests(1), 6);
        x.offer(2, 3);
        Due.due("1 would come up to 3", x.rests(1), 2);
        x.offer(1, 5);
        Due.due("1 would pay less, 2 more", x.rests(1), 6);
        x.offer(1, 6);
        x.offer(2, 7);
        Due.due("1 would have 0 by 7, too; 2 rests", x.rests(1), 0);
        Due.due("in two DAYS 0 would pay less", x.rests(2), 1);
        Due.due("nobody goes", Due.told("f1;g9,9;g9,9;r0,1;").rests(50), 0);
    }

    private static void wrongOnes() {
        WinterWalk x = Due.told(FORK);
        for (int strange : Due.STRANGE) {
            Due.due("lure, village " + strange, x.lure(strange, 1), Due.BAD);
            Due.due("lure, n " + strange, x.lure(0, strange), Due.BAD);
            Due.due("keepsAway, village " + strange, x.keepsAway(strange, 1, 0), Due.BAD);
            Due.due("keepsAway, n " + strange, x.keepsAway(0, strange, 0), Due.BAD);
            Due.due("keepsAway, what " + strange, x.keepsAway(0, 1, strange), Due.BAD);
            Due.due("bid, village " + strange, x.bid(strange, 1, 0), Due.BAD);
            Due.due("bid, n " + strange, x.bid(0, strange, 0), Due.BAD);
            Due.due("bid, what " + strange, x.bid(0, 1, strange), Due.BAD);
            Due.due("rests, n " + strange, x.rests(strange), Due.BAD);
        }
        Due.due("lure(3, 1)", x.lure(3, 1), Due.BAD);
        Due.due("lure(0, 0)", x.lure(0, 0), Due.BAD);
        Due.due("lure(0, 101)", x.lure(0, 101), Due.BAD);
        Due.due("keepsAway(3, 1, 0)", x.keepsAway(3, 1, 0), Due.BAD);
        Due.due("keepsAway(0, 0, 0)", x.keepsAway(0, 0, 0), Due.BAD);
        Due.due("keepsAway(0, 101, 0)", x.keepsAway(0, 101, 0), Due.BAD);
        Due.due("keepsAway(0, 1, 2)", x.keepsAway(0, 1, 2), Due.BAD);
        Due.due("bid(3, 1, 0)", x.bid(3, 1, 0), Due.BAD);
        Due.due("bid(0, 0, 0)", x.bid(0, 0, 0), Due.BAD);
        Due.due("bid(0, 51, 0)", x.bid(0, 51, 0), Due.BAD);
        Due.due("bid(0, 1, 2)", x.bid(0, 1, 2), Due.BAD);
        Due.due("rests(0)", x.rests(0), Due.BAD);
        Due.due("rests(51)", x.rests(51), Due.BAD);
    }
}
