/** Promises 9 to 14: who stays, what lasts, what can be undone, and how far a call may go. */
public final class GoingEdgesTest {
    private static final String SORTS = "oslte";
    private static final String PAIR = "f1;g1,0;g3,0;r0,1;";

    public static void main(String[] args) {
        whoHasNoRoadStays();
        whoHasNoneOpenStays();
        whoStaysSleepsThereAllTheSame();
        aShutDoorLetsOut();
        theFirstOfSeveralOffers();
        aSlowOneStaysOnItsDays();
        aSlowOneAtTheLastDay();
        aSlowOneAndUndoneDays();
        backOnlyIfNoOtherIsOpen();
        whoHasNotGoneHasNoWayBack();
        whoStayedHasNoWayBack();
        theFirstOfSeveralNights();
        nightsAsThoseAheadLeftThem();
        anEarlyOneTwice();
        frostThatLastsOneDay();
        frostThatLastsNineDays();
        frostNextDoorIsOneAtLeast();
        frostOfWhomNobodyTouches();
        whoIsPaid();
        nobodyGoes();
        daysTakes();
        noLandIsAheadOfBad();
        daysUpTo999();
        offerTakes();
        theSameOfferIsNoAct();
        doorTakes();
        doorsNoneToAll();
        villageTakes();
        walkerTakes();
        undoOfNone();
        actsUpToTwentyFour();
        theOldestActIsForgotten();
        everySortOfActIsUndone();
        undoneAndDoneAnew();
        Due.end("GoingEdgesTest");
    }

    // "Who has none OPEN stays"
    private static void whoHasNoRoadStays() {
        for (char sort : SORTS.toCharArray()) {
            WinterWalk x = Due.told("f1;g1,9;g1,9;g0,0;r1,2;" + sort + "0;");
            for (int d = 0; d < 4; d++) {
                Due.due(sort + " would stay", x.walker(0, 2), 0);
                x.days(1);
                Due.due(sort + " stays", x.walker(0, 0), 0);
                Due.due(sort + " was there the night before", x.walker(0, 1), 0);
            }
        }
    }

    // "whose doors are not shut"
    private static void whoHasNoneOpenStays() {
        for (char sort : SORTS.toCharArray()) {
            WinterWalk x = Due.told("f1;g0,0;g0,1;g0,2;g0,9;r0,1;r0,2;r1,3;r2,3;" + sort + "0;");
            x.door(1, 1);
            x.door(2, 1);
            Due.due(sort + " with all shut", x.walker(0, 2), 0);
            x.days(1);
            Due.due(sort + " stays", x.walker(0, 0), 0);
            x.door(2, 0);
            Due.due(sort + " with one OPEN", x.walker(0, 2), sort == 'e' ? 3 : 2);
        }
    }

    private static void whoStaysSleepsThereAllTheSame() {
        for (char sort : SORTS.toCharArray()) {
            WinterWalk x = Due.told("f7;c4,6;" + sort + "0;");
            boolean isPaid = sort != 't' && sort != 'e';
            for (int d = 1; d <= 3; d++) {
                Due.due(sort + ": GAIN", x.days(1), -4 * d);
                Due.due(sort + ": PAID", x.count(6), isPaid ? 6 * d : 0);
                Due.due(sort + ": NIGHTS", x.village(0, 4), d);
                Due.due(sort + ": FROST", x.village(0, 3), 7);
            }
        }
    }

    private static void aShutDoorLetsOut() {
        for (char sort : SORTS.toCharArray()) {
            WinterWalk x = Due.told("f1;g0,9;g0,0;g0,0;r0,1;r1,2;" + sort + "0;");
            x.door(0, 1);
            x.days(1);
            Due.due(sort + " goes out by its own shut door", x.walker(0, 0), sort == 'e' ? 2 : 1);
            x.days(6);
            Due.due(sort + " does not come back by it", x.village(0, 4), 0);
        }
    }

    // "whose OFFER is greatest, of several the first"
    private static void theFirstOfSeveralOffers() {
        for (char sort : "osl".toCharArray()) {
            WinterWalk x = Due.told("f1;g0,20;g0,0;g0,0;g0,0;r0,3;r0,2;r0,1;" + sort + "0;");
            Due.due(sort + ", all offer 0", x.walker(0, 2), 1);
            x.offer(3, 1);
            Due.due(sort + ", one offers 1", x.walker(0, 2), 3);
            x.offer(2, 1);
            Due.due(sort + ", two offer 1", x.walker(0, 2), 2);
            x.offer(2, 20);
            x.offer(3, 20);
            Due.due(sort + ", two offer 20", x.walker(0, 2), 2);
            x.offer(1, 20);
            Due.due(sort + ", three offer 20", x.walker(0, 2), 1);
            x.door(1, 1);
            Due.due(sort + ", the first shut", x.walker(0, 2), 2);
        }
    }

    // "on each DAY that 3 leaves 2 of it stays"
    private static void aSlowOneStaysOnItsDays() {
        WinterWalk x = Due.told(PAIR + "s0;");
        int at = 0;
        for (int day = 0; day < 40; day++) {
            at = day % 3 == 2 ? at : 1 - at;
            Due.due("where it would be behind DAY " + day, x.walker(0, 2), at);
            x.days(1);
            Due.due("where it is behind DAY " + day, x.walker(0, 0), at);
        }
    }

    private static void aSlowOneAtTheLastDay() {
        WinterWalk x = Due.told(PAIR + "s0;");
        Worlds.pass(x, 998);
        int at = x.walker(0, 0);
        Due.due("on DAY 998 it would stay", x.walker(0, 2), at);
        x.days(1);
        Due.due("it stayed", x.walker(0, 0), at);
        Due.due("on DAY 999 it would go", x.walker(0, 2), 1 - at);
        Due.due("and be there", x.ahead(0, 1, 0), 1 - at);
        Due.due("and on DAY 1001 stay", x.ahead(0, 3, 0), x.ahead(0, 2, 0));
    }

    private static void aSlowOneAndUndoneDays() {
        WinterWalk x = Due.told(PAIR + "s0;");
        x.days(2);
        Due.due("DAY 2", x.walker(0, 2), x.walker(0, 0));
        x.undo();
        Due.due("DAY 1", x.walker(0, 2), 1 - x.walker(0, 0));
        x.days(1);
        Due.due("DAY 2 again", x.walker(0, 2), x.walker(0, 0));
        x.door(0, 1);
        x.door(0, 0);
        x.offer(0, 3);
        Due.due("doors and OFFERS are no DAYS", x.walker(0, 2), x.walker(0, 0));
    }

    // "to where it was the night before this one only if no other one is OPEN"
    private static void backOnlyIfNoOtherIsOpen() {
        String text = "f1;g0,0;g0,20;g0,1;g0,0;r0,1;r0,2;r0,3;l1;";
        WinterWalk x = Due.told(text);
        x.days(1);
        Due.due("it came from 1", x.walker(0, 1), 1);
        Due.due("another, for all that 1 offers more", x.walker(0, 2), 2);
        x.door(2, 1);
        Due.due("the last other one", x.walker(0, 2), 3);
        x.door(3, 1);
        Due.due("no other one", x.walker(0, 2), 1);
        x.door(1, 1);
        Due.due("none at all", x.walker(0, 2), 0);
        x.door(3, 0);
        Due.due("another, the way back shut", x.walker(0, 2), 3);
        WinterWalk o = Due.told(text.replace("l1", "o1"));
        o.days(1);
        Due.due("an old one goes back", o.walker(0, 2), 1);
    }

    private static void whoHasNotGoneHasNoWayBack() {
        WinterWalk x = Due.told("f1;g0,20;g0,0;g0,1;r0,1;r1,2;l1;");
        Due.due("the night before", x.walker(0, 1), Due.NONE);
        Due.due("VILLAGE 0 is not where it was", x.walker(0, 2), 0);
        x.days(1);
        x.undo();
        Due.due("not gone, as that is undone", x.walker(0, 1), Due.NONE);
        Due.due("so again", x.walker(0, 2), 0);
    }

    private static void whoStayedHasNoWayBack() {
        WinterWalk x = Due.told("f1;g0,20;g0,0;g0,1;r0,1;r1,2;l0;");
        x.days(1);
        Due.due("on, for all that 0 offers more", x.walker(0, 2), 2);
        x.door(0, 1);
        x.door(2, 1);
        x.days(1);
        Due.due("it stayed", x.walker(0, 1), 1);
        x.door(0, 0);
        x.door(2, 0);
        Due.due("the night before this one it was here", x.walker(0, 2), 0);
    }

    // "in which the fewest NIGHTS were slept, of several the first"
    private static void theFirstOfSeveralNights() {
        WinterWalk x = Due.told("f1;g0,0;g0,0;g0,20;g0,20;r0,3;r0,2;r0,1;t0;");
        int[] due = {1, 0, 2, 0, 3, 0, 1, 0, 2};
        for (int d = 0; d < due.length; d++) {
            Due.due("she would go, DAY " + d, x.walker(0, 2), due[d]);
            x.days(1);
        }
    }

    // "NIGHTS as those ahead left them"
    private static void nightsAsThoseAheadLeftThem() {
        String ways = "f1;g0,0;g0,0;g0,9;r0,1;r0,2;";
        WinterWalk behind = Due.told(ways + "o0;t0;t0;");
        behind.door(2, 1);
        behind.days(1);
        Due.due("three to the only one OPEN", behind.village(1, 4), 3);
        WinterWalk x = Due.told(ways + "t0;o0;t0;");
        Due.due("by NIGHTS as they are now", x.walker(2, 2), 1);
        x.days(1);
        Due.due("the first by none", x.walker(0, 0), 1);
        Due.due("the old one by OFFERS", x.walker(1, 0), 2);
        Due.due("the last by one in each", x.walker(2, 0), 1);
        WinterWalk y = Due.told(ways + "o0;t0;t0;");
        y.days(1);
        Due.due("the old one", y.walker(0, 0), 2);
        Due.due("she goes elsewhere", y.walker(1, 0), 1);
        Due.due("and she to the first", y.walker(2, 0), 1);
    }

    // "an early one does so twice (the second from where the first leads)"
    private static void anEarlyOneTwice() {
        String line = "f1;g5,1;g7,2;g9,4;r0,1;r1,2;e0;";
        WinterWalk x = Due.told(line);
        x.door(0, 1);
        x.days(1);
        Due.due("two VILLAGES on", x.walker(0, 0), 2);
        Due.due("no night on the way", x.village(1, 4), 0);
        Due.due("GAIN of where she sleeps alone", x.count(5), 9);
        Due.due("FROST on the way is a neighbour's", x.village(1, 3), 1);
        Due.due("none where she was", x.village(0, 3), 0);
        WinterWalk stuck = Due.told(line);
        stuck.door(1, 1);
        Due.due("none OPEN at first", stuck.walker(0, 2), 0);
        WinterWalk half = Due.told(line);
        half.door(0, 1);
        half.door(2, 1);
        Due.due("none OPEN then", half.walker(0, 2), 1);
        WinterWalk end = Due.told("f1;g0,0;g0,0;r0,1;e0;");
        Due.due("there and back", end.walker(0, 2), 0);
        end.door(0, 1);
        Due.due("not back by a shut door", end.walker(0, 2), 1);
    }

    // "FROST of each VILLAGE that has any is 1 less"; "FROST is LASTS there"
    private static void frostThatLastsOneDay() {
        WinterWalk x = Worlds.alongEight(1);
        Due.due("nothing at first", x.cold(0, 2), 0);
        for (int d = 1; d <= 7; d++) {
            x.days(1);
            int around = 1 << d | 1 << d - 1 | (d < 7 ? 1 << d + 1 : 0);
            Due.due("frozen behind DAY " + (d - 1), x.cold(0, 2), around);
            Due.due("FROST there", x.village(d, 3), 1);
            Due.due("FROST of those far off", x.village((d + 4) % 8, 3), 0);
        }
    }

    private static void frostThatLastsNineDays() {
        WinterWalk x = Worlds.alongEight(9);
        int[] due = {0, 9, 8, 7, 6, 5, 4, 3, 2, 1, 0, 0, 1, 9, 8};
        int[] at = {0, 1, 2, 3, 4, 5, 6, 7, 6, 5, 4, 3, 2, 1, 0};
        for (int d = 0; d < due.length; d++) {
            Due.due("where it is, DAY " + d, x.walker(0, 0), at[d]);
            Due.due("FROST of 1, DAY " + d, x.village(1, 3), due[d]);
            Due.due("whether it is frozen, DAY " + d, x.cold(0, 2) >> 1 & 1, due[d] > 0 ? 1 : 0);
            x.days(1);
        }
    }

    // "in each VILLAGE to which a road leads 1 at least"
    private static void frostNextDoorIsOneAtLeast() {
        WinterWalk x = Worlds.alongEight(2);
        x.days(1);
        frost(x, 1, 2, 1, 0, 0, 0, 0, 0);
        x.days(1);
        frost(x, 0, 1, 2, 1, 0, 0, 0, 0);
        x.days(1);
        frost(x, 0, 0, 1, 2, 1, 0, 0, 0);
        WinterWalk shut = Due.told("f1;g0,0;g0,0;r0,1;o0;");
        shut.door(1, 1);
        shut.days(1);
        frost(shut, 1, 1);
        WinterWalk two = Due.told("f5;g0,0;g0,0;r0,1;o0;o1;");
        two.days(1);
        frost(two, 5, 5);
        WinterWalk turned = Due.told("f5;g0,0;g0,0;g0,0;r0,1;r1,2;o0;o2;");
        turned.days(1);
        frost(turned, 1, 5, 1);
    }

    private static void frost(WinterWalk x, int... due) {
        for (int v = 0; v < due.length; v++) {
            Due.due("FROST of " + v + " on DAY " + x.count(4), x.village(v, 3), due[v]);
        }
    }

    private static void frostOfWhomNobodyTouches() {
        WinterWalk x = Due.told("f1;g0,0;g0,0;g0,0;r0,1;o0;");
        x.days(24);
        Due.due("it is not below none", x.village(2, 3), 0);
        Due.due("it is not frozen", x.cold(0, 2), 3);
    }

    // "to an old one, a slow one, one who likes other roads, its OFFER is PAID"
    private static void whoIsPaid() {
        int[] due = {20, 20, 20, 0, 0};
        for (int i = 0; i < 5; i++) {
            WinterWalk x = Due.told("f1;g9,0;c9,20;g0,0;r0,1;r1,2;" + SORTS.charAt(i) + "0;");
            x.door(2, i == 4 ? 1 : 0);
            x.door(0, i == 4 ? 1 : 0);
            Due.due("GAIN of " + SORTS.charAt(i), x.days(1), -9);
            Due.due("PAID to " + SORTS.charAt(i), x.count(6), due[i]);
        }
    }

    private static void nobodyGoes() {
        WinterWalk x = Worlds.still();
        Due.due("GAIN", x.days(24), 0);
        Due.due("DAY", x.count(4), 24);
        Due.due("PAID", x.count(6), 0);
        Due.due("ACTS", x.count(7), 24);
        Due.due("frozen", x.cold(0, 2), 0);
    }

    // "n DAYS (1 to 24), an ACT each: GAIN. BAD"
    private static void daysTakes() {
        Edge.takes("days", Worlds::busy, (x, v) -> x.days(v), 1, 24);
        Edge.takes("days, nobody going", Worlds::still, (x, v) -> x.days(v), 1, 24);
        for (int n : new int[] {1, 2, 23, 24}) {
            WinterWalk x = Worlds.alone();
            Due.due("GAIN of " + n, x.days(n), 3 * n);
            Due.due("DAY behind " + n, x.count(4), n);
            Due.due("ACTS behind " + n, x.count(7), n);
        }
    }

    // "STATE: no LAND (ahead of BAD)"
    private static void noLandIsAheadOfBad() {
        for (int n : new int[] {1, 24, 0, 25, -1, 999, 1000, Integer.MIN_VALUE, Integer.MAX_VALUE}) {
            Edge.refused("days(" + n + ") without a LAND", Worlds::none, x -> x.days(n), Due.STATE);
        }
    }

    // "FULL: more than 999 would be gone"
    private static void daysUpTo999() {
        for (int left = 0; left <= 24; left++) {
            int gone = 999 - left;
            Edge.World world = () -> {
                WinterWalk x = Worlds.alone();
                Worlds.pass(x, gone);
                return x;
            };
            if (left > 0) {
                Due.due("the last " + left, world.anew().days(left), 3 * 999);
            }
            if (left < 24) {
                int more = left + 1;
                Edge.refused("one more than " + left, world, x -> x.days(more), Due.FULL);
                Edge.refused("24 where " + left + " are left", world, x -> x.days(24), Due.FULL);
            }
        }
        for (int n : new int[] {0, -1, 25, Integer.MIN_VALUE, Integer.MAX_VALUE, Integer.MAX_VALUE - 998}) {
            Edge.refused("BAD is ahead of FULL, " + n, Worlds::full, x -> x.days(n), Due.BAD);
        }
        WinterWalk x = Worlds.alone();
        Worlds.pass(x, 999);
        x.undo();
        Due.due("a DAY undone is a DAY free", x.days(1), 3 * 999);
        Due.due("but no more", x.days(1), Due.FULL);
        Due.feedAll(x, "f1;g1,1;o0;");
        x.land();
        Due.due("another LAND begins anew", x.days(24), 24);
    }

    // "An OFFER (0 to 20): what it was. BAD"
    private static void offerTakes() {
        Edge.takes("offer, village", Worlds::busy, (x, v) -> x.offer(v, 20), 0, 4);
        Edge.takes("offer, village of eight", Worlds::full, (x, v) -> x.offer(v, 20), 0, 7);
        Edge.takes("offer, the only village", Worlds::alone, (x, v) -> x.offer(v, 20), 0, 0);
        Edge.takes("offer, v", Worlds::busy, (x, v) -> x.offer(0, v), 0, 20);
        Edge.refused("offer without a LAND", Worlds::none, x -> x.offer(0, 0), Due.BAD);
        WinterWalk x = Worlds.alone();
        int was = 4;
        for (int v : new int[] {0, 20, 1, 19}) {
            Due.due("offer(0, " + v + ")", x.offer(0, v), was);
            Due.due("it is so then", x.village(0, 1), v);
            was = v;
        }
    }

    // ACTS: "an OFFER is another one"
    private static void theSameOfferIsNoAct() {
        WinterWalk x = Worlds.alone();
        Due.due("the OFFER that is there", x.offer(0, 4), 4);
        Due.due("no ACT", x.count(7), 0);
        Due.due("nothing to undo", x.undo(), Due.STATE);
        x.offer(0, 5);
        x.offer(0, 5);
        x.offer(0, 4);
        Due.due("two ACTS", x.count(7), 2);
        Due.due("undo()", x.undo(), 1);
        Due.due("OFFER", x.village(0, 1), 5);
        Due.due("undo()", x.undo(), 0);
        Due.due("OFFER", x.village(0, 1), 4);
    }

    // "A door is shut (1), opened (0): how many are shut. BAD; STATE: it is so"
    private static void doorTakes() {
        Edge.takes("door, village", Worlds::still, (x, v) -> x.door(v, 1), 0, 2);
        Edge.takes("door, village of eight", Worlds::full, (x, v) -> x.door(v, 0), 0, 7);
        Edge.takes("door, the only village", Worlds::alone, (x, v) -> x.door(v, 1), 0, 0);
        // of these doors 3 is shut, 0 is not
        Edge.takes("door, shut", Worlds::busy, (x, v) -> x.door(v == 0 ? 3 : 0, v), 0, 1);
        for (int wrong : new int[] {-1, 2, 3, 256, Integer.MIN_VALUE, Integer.MAX_VALUE}) {
            Edge.refused("BAD is ahead of STATE, " + wrong, Worlds::full, x -> x.door(0, wrong), Due.BAD);
            Edge.refused("no VILLAGE " + wrong, Worlds::alone, x -> x.door(wrong, 0), Due.BAD);
        }
        Edge.refused("it is open", Worlds::busy, x -> x.door(0, 0), Due.STATE);
        Edge.refused("it is shut", Worlds::busy, x -> x.door(3, 1), Due.STATE);
        Edge.refused("all are shut", Worlds::full, x -> x.door(7, 1), Due.STATE);
        Edge.refused("door without a LAND", Worlds::none, x -> x.door(0, 1), Due.BAD);
        Edge.refused("no door to open without a LAND", Worlds::none, x -> x.door(0, 0), Due.BAD);
    }

    private static void doorsNoneToAll() {
        WinterWalk x = Due.told(Worlds.EIGHT + "o0;");
        for (int v = 7; v >= 0; v--) {
            Due.due("shut " + v, x.door(v, 1), 8 - v);
            Due.due("it is shut", x.village(v, 2), 1);
        }
        for (int v = 7; v >= 0; v--) {
            Due.due("open " + v, x.door(v, 0), v);
            Due.due("it is open", x.village(v, 2), 0);
        }
    }

    // "Of a VILLAGE: 0 WORTH .. 5 where roads lead (bits). BAD"
    private static void villageTakes() {
        Edge.takes("village, village", Worlds::busy, (x, v) -> x.village(v, 0), 0, 4);
        Edge.takes("village, village of eight", Worlds::full, (x, v) -> x.village(v, 5), 0, 7);
        Edge.takes("village, the only one", Worlds::alone, (x, v) -> x.village(v, 0), 0, 0);
        Edge.takes("village, what", Worlds::busy, (x, v) -> x.village(4, v), 0, 5);
        for (int what = 0; what <= 5; what++) {
            int asked = what;
            Edge.refused("no LAND, what " + what, Worlds::none, x -> x.village(0, asked), Due.BAD);
        }
        WinterWalk x = Worlds.full();
        Due.due("no roads", Worlds.alone().village(0, 5), 0);
        Due.due("roads to all others", x.village(0, 5), 254);
        Due.due("NIGHTS of 999 DAYS", nightsOfAll(x), 3 * 999);
    }

    private static int nightsOfAll(WinterWalk x) {
        int sum = 0;
        for (int v = 0; v < x.count(1); v++) {
            sum += x.village(v, 4);
        }
        return sum;
    }

    // "Of a WALKER: 0 where it is, 1 where it was the night before (NONE ..), 2 .. BAD"
    private static void walkerTakes() {
        Edge.takes("walker, walker", Worlds::busy, (x, v) -> x.walker(v, 0), 0, 2);
        Edge.takes("walker, the only one", Worlds::alone, (x, v) -> x.walker(v, 0), 0, 0);
        Edge.takes("walker, what", Worlds::busy, (x, v) -> x.walker(2, v), 0, 2);
        for (int what = 0; what <= 2; what++) {
            int asked = what;
            Edge.refused("no LAND, what " + what, Worlds::none, x -> x.walker(0, asked), Due.BAD);
            Edge.refused("no WALKERS, what " + what, Worlds::still, x -> x.walker(0, asked), Due.BAD);
        }
        WinterWalk x = Worlds.alone();
        Due.due("it has not gone yet", x.walker(0, 1), Due.NONE);
        x.door(0, 1);
        Due.due("nor by an ACT that is no DAY", x.walker(0, 1), Due.NONE);
        x.days(1);
        Due.due("it has slept once", x.walker(0, 1), 0);
    }

    // "STATE: none"
    private static void undoOfNone() {
        Edge.refused("undo without a LAND", Worlds::none, x -> x.undo(), Due.STATE);
        Edge.refused("undo of nothing", Worlds::alone, x -> x.undo(), Due.STATE);
        Edge.refused("undo behind restore", () -> {
            WinterWalk x = Worlds.busy();
            x.restore(0);
            return x;
        }, x -> x.undo(), Due.STATE);
        Edge.refused("undo behind all are undone", () -> {
            WinterWalk x = Worlds.alone();
            x.days(2);
            x.undo();
            x.undo();
            return x;
        }, x -> x.undo(), Due.STATE);
        Edge.refused("undo behind 24 are undone", () -> {
            WinterWalk x = Worlds.full();
            for (int i = 0; i < 24; i++) {
                x.undo();
            }
            return x;
        }, x -> x.undo(), Due.STATE);
    }

    // "24 at most are kept"
    private static void actsUpToTwentyFour() {
        for (int acts : new int[] {1, 23, 24, 25, 26, 47, 48, 49, 50}) {
            WinterWalk x = Worlds.alone();
            for (int i = 0; i < acts; i++) {
                x.offer(0, i % 2);
            }
            int kept = Math.min(acts, 24);
            Due.due("ACTS of " + acts, x.count(7), kept);
            for (int left = kept - 1; left >= 0; left--) {
                Due.due("undo()", x.undo(), left);
                Due.due("ACTS then", x.count(7), left);
            }
            Due.due("no more than that", x.undo(), Due.STATE);
            Due.due("as it was ahead of these", x.village(0, 1), acts <= 24 ? 4 : (acts - 25) % 2);
        }
    }

    // "of more the oldest is forgotten"
    private static void theOldestActIsForgotten() {
        WinterWalk x = Due.told(PAIR + "o0;");
        x.door(1, 1);
        x.offer(0, 7);
        x.days(22);
        Due.due("24 ACTS", x.count(7), 24);
        x.days(1);
        Due.due("not 25", x.count(7), 24);
        for (int i = 0; i < 24; i++) {
            x.undo();
        }
        Due.due("the OFFER is undone", x.village(0, 1), 0);
        Due.due("the door is not", x.village(1, 2), 1);
        Due.due("DAY", x.count(4), 0);
        Due.due("nothing more", x.undo(), Due.STATE);
        x.days(1);
        x.days(24);
        for (int i = 0; i < 24; i++) {
            x.undo();
        }
        Due.due("24 DAYS push out what was", x.count(4), 1);
        Due.due("nothing more", x.undo(), Due.STATE);
    }

    // "each can be undone, the latest first"
    private static void everySortOfActIsUndone() {
        Edge.Call[] acts = {x -> x.days(1), x -> x.offer(4, 0), x -> x.door(4, 1), x -> x.door(3, 0),
            x -> x.offer(0, 20), x -> x.days(1)};
        int ahead = Worlds.busy().count(7);
        for (int undone = 1; undone <= acts.length; undone++) {
            int left = acts.length - undone;
            WinterWalk x = busyBehind(acts, acts.length);
            for (int i = acts.length - 1; i >= left; i--) {
                Due.due("undo() of ACT " + i, x.undo(), ahead + i);
            }
            Due.same("all but " + left + " undone", Everything.part(0, x), Everything.part(0, busyBehind(acts, left)));
        }
    }

    private static WinterWalk busyBehind(Edge.Call[] acts, int many) {
        WinterWalk x = Worlds.busy();
        for (int i = 0; i < many; i++) {
            acts[i].on(x);
        }
        return x;
    }

    private static void undoneAndDoneAnew() {
        WinterWalk x = Worlds.full();
        String ahead = Due.landSeen(x);
        for (int i = 0; i < 10; i++) {
            x.undo();
        }
        x.offer(0, 9);
        Due.due("ACTS: 14 and one", x.count(7), 15);
        x.undo();
        x.days(2);
        for (int v = 0; v < 8; v++) {
            x.door(v, 1);
        }
        Due.same("done anew it is as it was", Due.landSeen(x), ahead);
        Due.due("ACTS", x.count(7), 24);
    }
}
