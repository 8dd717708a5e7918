/** Promises 9 to 14: DAYS, OFFERS, doors, how each KIND goes on, what is undone. */
public final class GoingTest {
    private static final String STAR = "f2;g1,1;g2,5;c3,5;g4,0;r0,1;r0,2;r0,3;";

    public static void main(String[] args) {
        anOldOneGoes();
        aSlowOneGoes();
        oneWhoLikesOtherRoadsGoes();
        aSisterGoes();
        anEarlyOneGoes();
        oneBehindTheOther();
        aDayIsCounted();
        offersAndDoors();
        actsAreUndone();
        daysAreRefused();
        wrongOnes();
        Due.end("GoingTest");
    }

    private static void anOldOneGoes() {
        WinterWalk x = Due.told(STAR + "o0;");
        Due.due("greatest, the first", x.walker(0, 2), 1);
        x.door(1, 1);
        Due.due("door 1 shut", x.walker(0, 2), 2);
        x.door(2, 1);
        Due.due("door 2 shut", x.walker(0, 2), 3);
        x.door(3, 1);
        Due.due("none OPEN", x.walker(0, 2), 0);
        Due.due("who stays sleeps, too", x.days(1), 1);
        Due.due("where", x.walker(0, 0), 0);
        Due.due("the night before", x.walker(0, 1), 0);
        x.door(0, 1);
        x.door(3, 0);
        Due.due("a shut door lets one out", x.walker(0, 2), 3);
    }

    private static void aSlowOneGoes() {
        path("f1;g0,0;g0,0;r0,1;s0;", 1, 0, 0, 1, 0, 0, 1, 0, 0);
        path("f1;g0,0;g0,0;r0,1;o0;", 1, 0, 1, 0, 1, 0, 1, 0, 1);
    }

    private static void oneWhoLikesOtherRoadsGoes() {
        String line = "f1;g0,9;g0,8;g0,7;r0,1;r1,2;l1;";
        path(line, 0, 1, 2, 1, 0, 1, 2);
        WinterWalk x = Due.told(line);
        x.days(2);
        x.door(2, 1);
        Due.due("back, as no other is OPEN", x.walker(0, 2), 0);
        x.door(0, 1);
        Due.due("none OPEN", x.walker(0, 2), 1);
        x.days(1);
        x.door(0, 0);
        x.door(2, 0);
        Due.due("the night before it was here", x.walker(0, 2), 0);
    }

    private static void aSisterGoes() {
        String star = "f1;g0,0;g0,9;g0,0;r0,1;r0,2;t0;";
        path(star, 1, 0, 2, 0, 1, 0, 2);
        WinterWalk x = Due.told(star);
        x.days(3);
        Due.due("nothing is PAID", x.count(6), 0);
        Due.due("NIGHTS 0", x.village(0, 4), 1);
        Due.due("NIGHTS 2", x.village(2, 4), 1);
    }

    private static void anEarlyOneGoes() {
        String line = "f1;g0,0;g0,0;g0,0;r0,1;r1,2;e0;";
        path(line, 0, 2, 0, 2);
        WinterWalk x = Due.told(line);
        x.days(2);
        Due.due("no NIGHT where it only goes through", x.village(1, 4), 0);
        Due.due("the night before", x.walker(0, 1), 0);
        x.door(1, 1);
        Due.due("none OPEN at first", x.walker(0, 2), 2);
        x.door(1, 0);
        x.door(0, 1);
        x.door(2, 1);
        Due.due("none OPEN then", x.walker(0, 2), 1);
    }

    private static void oneBehindTheOther() {
        WinterWalk x = Due.told("f1;g0,0;g0,0;g0,0;r0,1;r0,2;t0;t0;");
        Due.due("now", x.walker(1, 2), 1);
        x.days(1);
        Due.due("the first", x.walker(0, 0), 1);
        Due.due("the second, behind it", x.walker(1, 0), 2);
    }

    private static void aDayIsCounted() {
        WinterWalk x = Due.told(STAR + "o0;");
        Due.due("days(1)", x.days(1), 2);
        holds(x, "first DAY", 1, 2, 5);
        frost(x, "first DAY", 1, 2, 0, 0);
        Due.due("days(1)", x.days(1), 3);
        holds(x, "second DAY", 2, 3, 6);
        frost(x, "second DAY", 2, 1, 1, 1);
        x.door(1, 1);
        Due.due("days(1)", x.days(1), 0);
        holds(x, "third DAY", 3, 0, 11);
        frost(x, "third DAY", 1, 0, 2, 0);
        Due.due("NIGHTS", x.village(2, 4), 1);
        WinterWalk y = Due.told("f9;g1,3;s0;l0;e0;");
        Due.due("three in one VILLAGE", y.days(1), 3);
        holds(y, "three in one VILLAGE", 1, 3, 6);
        frost(y, "three in one VILLAGE", 9);
        Due.due("NIGHTS", y.village(0, 4), 3);
        WinterWalk z = Due.told("f5;g0,1;g0,0;g0,0;r0,1;r1,2;s1;");
        z.days(1);
        z.door(0, 1);
        z.days(1);
        frost(z, "FROST is not less by a neighbour", 4, 5, 1);
        z.days(1);
        frost(z, "nor is it more", 3, 5, 1);
    }

    private static void offersAndDoors() {
        WinterWalk x = Due.told(STAR + "o0;");
        Due.due("offer(3, 20)", x.offer(3, 20), 0);
        Due.due("it goes there", x.walker(0, 2), 3);
        Due.due("offer(3, 5)", x.offer(3, 5), 20);
        Due.due("of several the first", x.walker(0, 2), 1);
        Due.due("ACTS", x.count(7), 2);
        Due.due("the same OFFER", x.offer(3, 5), 5);
        Due.due("is not another one", x.count(7), 2);
        Due.due("offer(3, 21)", x.offer(3, 21), Due.BAD);
        Due.due("offer(3, -1)", x.offer(3, -1), Due.BAD);
        Due.due("offer(4, 1)", x.offer(4, 1), Due.BAD);
        Due.due("offer(-1, 1)", x.offer(-1, 1), Due.BAD);
        Due.due("door(1, 0) is so", x.door(1, 0), Due.STATE);
        Due.due("door(1, 1)", x.door(1, 1), 1);
        Due.due("door(3, 1)", x.door(3, 1), 2);
        Due.due("door(3, 1) is so", x.door(3, 1), Due.STATE);
        Due.due("whether it is shut", x.village(3, 2), 1);
        Due.due("door(1, 0)", x.door(1, 0), 1);
        Due.due("door(1, 2)", x.door(1, 2), Due.BAD);
        Due.due("door(1, -1)", x.door(1, -1), Due.BAD);
        Due.due("door(4, 1)", x.door(4, 1), Due.BAD);
        Due.due("door(-1, 1)", x.door(-1, 1), Due.BAD);
        Due.due("ACTS", x.count(7), 5);
    }

    private static void actsAreUndone() {
        WinterWalk x = Due.told(STAR + "o0;t1;l2;");
        String untouched = Due.landSeen(x);
        x.days(1);
        x.offer(2, 9);
        x.door(1, 1);
        x.door(1, 0);
        for (int i = 3; i >= 0; i--) {
            Due.due("undo()", x.undo(), i);
        }
        Due.same("all undone", Due.landSeen(x), untouched);
        Due.due("undo() of none", x.undo(), Due.STATE);
        x.days(2);
        String two = Due.landSeen(x);
        x.days(23);
        Due.due("24 ACTS at most", x.count(7), 24);
        for (int i = 23; i >= 1; i--) {
            Due.due("undo()", x.undo(), i);
        }
        Due.same("all but one undone", Due.landSeen(x), two);
        Due.due("the last that is kept", x.undo(), 0);
        Due.due("DAY", x.count(4), 1);
        Due.due("the oldest is forgotten", x.undo(), Due.STATE);
        x.offer(0, 8);
        x.undo();
        Due.due("the OFFER is as it was", x.village(0, 1), 1);
    }

    private static void daysAreRefused() {
        WinterWalk x = Due.told("f1;g1,0;o0;");
        Due.due("days(0)", x.days(0), Due.BAD);
        Due.due("days(25)", x.days(25), Due.BAD);
        for (int i = 1; i <= 41; i++) {
            Due.due("days(24)", x.days(24), 24 * i);
        }
        Due.due("DAY", x.count(4), 984);
        Due.due("days(16)", x.days(16), Due.FULL);
        Due.due("DAY stays", x.count(4), 984);
        Due.due("BAD is ahead of FULL", x.days(25), Due.BAD);
        Due.due("days(15)", x.days(15), 999);
        Due.due("days(1)", x.days(1), Due.FULL);
        Due.due("foretold all the same", x.cold(100, 0), 1099);
        x.undo();
        Due.due("days(1) behind undo()", x.days(1), 999);
    }

    private static void wrongOnes() {
        WinterWalk x = Due.told(STAR + "o0;");
        for (int strange : Due.STRANGE) {
            Due.due("village " + strange, x.village(strange, 0), Due.BAD);
            Due.due("village, what " + strange, x.village(0, strange), Due.BAD);
            Due.due("walker " + strange, x.walker(strange, 0), Due.BAD);
            Due.due("walker, what " + strange, x.walker(0, strange), Due.BAD);
            Due.due("days " + strange, x.days(strange), Due.BAD);
            Due.due("offer " + strange, x.offer(0, strange), Due.BAD);
            Due.due("door " + strange, x.door(strange, 1), Due.BAD);
        }
        Due.due("village(4, 0)", x.village(4, 0), Due.BAD);
        Due.due("village(0, 6)", x.village(0, 6), Due.BAD);
        Due.due("walker(1, 0)", x.walker(1, 0), Due.BAD);
        Due.due("walker(0, 3)", x.walker(0, 3), Due.BAD);
    }

    private static void path(String text, int... places) {
        WinterWalk x = Due.told(text);
        for (int d = 0; d < places.length; d++) {
            int from = x.walker(0, 0);
            Due.due(text + " would go on DAY " + d, x.walker(0, 2), places[d]);
            x.days(1);
            Due.due(text + " behind DAY " + d, x.walker(0, 0), places[d]);
            Due.due(text + " the night before, DAY " + d, x.walker(0, 1), from);
        }
    }

    private static void holds(WinterWalk x, String when, int day, int gain, int paid) {
        Due.due(when + ": DAY", x.count(4), day);
        Due.due(when + ": GAIN", x.count(5), gain);
        Due.due(when + ": PAID", x.count(6), paid);
    }

    private static void frost(WinterWalk x, String when, int... frosts) {
        for (int v = 0; v < frosts.length; v++) {
            Due.due(when + ": FROST of " + v, x.village(v, 3), frosts[v]);
        }
    }
}
