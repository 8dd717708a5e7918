/** Promises 6 to 8: the edges of THE TAPE, of TOKENS, of what a LAND has room for, and the FAULTS there. */
public final class TextEdgesTest {
    private static final String ONE = "f1;g0,0;", TWO = ONE + "g0,0;";
    private static final int CANNOT_STAND = 1, WRONG_NUMBER = 2, NO_ROOM = 3;

    public static void main(String[] args) {
        feedTakes();
        theTapeHoldsSixScore();
        aTextOfSixScoreIsRead();
        theEmptyTape();
        everyByteAtEveryTurn();
        figuresTwoAtMost();
        lastsOneToNine();
        worthAndCostNoneToNine();
        offerNoneToTwenty();
        villagesOneToEight();
        roadsNoneToTwelve();
        walkersNoneToThree();
        roadsBetweenVillagesTold();
        roadsBetweenTheUnlike();
        noTwoRoadsBetweenTheSame();
        walkersAtVillagesTold();
        theEndAtEveryPlace();
        theFirstTokenThatHasOne();
        ofOneTokenTheLeast();
        atAFaultAllStays();
        theLatestFault();
        aLandInPlaceOfAnother();
        whatALandLeaves();
        Due.end("TextEdgesTest");
    }

    // "A byte (0 to 255) comes behind the tape: how many it has. BAD; FULL"
    private static void feedTakes() {
        Edge.takes("feed, none there", Worlds::none, (x, v) -> x.feed(v), 0, 255);
        Edge.takes("feed, some there", Worlds::busy, (x, v) -> x.feed(v), 0, 255);
        Edge.refused("FULL, 0", Worlds::full, x -> x.feed(0), Due.FULL);
        Edge.refused("FULL, 255", Worlds::full, x -> x.feed(255), Due.FULL);
        Edge.refused("BAD is ahead of FULL, 256", Worlds::full, x -> x.feed(256), Due.BAD);
        Edge.refused("BAD is ahead of FULL, -1", Worlds::full, x -> x.feed(-1), Due.BAD);
    }

    // "THE TAPE has at most 120 bytes, that come one by one"
    private static void theTapeHoldsSixScore() {
        WinterWalk x = new WinterWalk();
        for (int i = 1; i <= 120; i++) {
            Due.due("feed, number " + i, x.feed('0' + i % 10), i);
            Due.due("bytes", x.count(8), i);
        }
        Due.due("feed, number 121", x.feed('0'), Due.FULL);
        Due.due("feed, number 122", x.feed('0'), Due.FULL);
        Due.due("bytes", x.count(8), 120);
        x.land();
        Due.due("bytes behind land()", x.count(8), 0);
        Due.due("the first again", x.feed('f'), 1);
    }

    private static void aTextOfSixScoreIsRead() {
        String text = "f9;g9,20;c9,20;g09,2;c9,00;g0,10;c0,0;g0,1;c5,20;" + Worlds.TWELVE + "o00;t7;s3;";
        String full = text.replace("t7", "t07");
        Due.due("its bytes", Due.feedAll(new WinterWalk(), full), 120);
        Due.reads(text, 8);
        Due.reads(full, 8);
        Due.due("the last WALKER", Due.told(full).walker(2, 0), 3);
        Due.faulty(full.replace("s3;", "s3,"), 119, CANNOT_STAND);
        // the byte for which there is no room is the last ;
        Due.faulty(full.replace("o00;t07;s3;", "o00;t07;s03;"), 120, CANNOT_STAND);
        Due.faulty(full.replace("o00", "o000"), 110, CANNOT_STAND);
    }

    // "the end: how many bytes there are"
    private static void theEmptyTape() {
        Due.faulty("", 0, CANNOT_STAND);
        WinterWalk x = new WinterWalk();
        Due.due("land()", x.land(), -1000100);
        Due.due("land() again", x.land(), -1000100);
        Due.due("no LAND", x.days(1), Due.STATE);
    }

    // "TOKENS: letters a to z (each by itself), NUMBERS, SIGNS , and ; nothing else"
    private static void everyByteAtEveryTurn() {
        canStand("", "f");
        canStand("f", "0123456789");
        canStand("f1;", "gc");
        canStand("f1;g", "0123456789");
        canStand("f1;c", "0123456789");
        canStand("f1;g01", ",");
        canStand("f1;g0,", "0123456789");
        canStand("f1;g0,01", ";");
        canStand(ONE, "gcroslte");
        canStand(ONE + "r", "0123456789");
        canStand(TWO + "r01", ",");
        canStand(TWO + "r1,", "0123456789");
        canStand(TWO + "r1,00", ";");
        canStand(TWO + "r1,0;", "roslte");
        canStand(ONE + "o", "0123456789");
        canStand(ONE + "o00", ";");
        canStand(ONE + "o0;", "oslte");
        canStand(ONE + "o0;s0;t0;", "oslte");
    }

    /** A byte that can stand there leaves only the end, or itself, to be found at fault. */
    private static void canStand(String ahead, String bytes) {
        for (int b = 0; b <= 255; b++) {
            WinterWalk x = new WinterWalk();
            Due.feedAll(x, ahead + (char) b);
            int place = -1000100 - x.land();
            boolean stands = place > ahead.length() || x.fault() != CANNOT_STAND;
            boolean isLand = place < 0;
            Due.due("byte " + b + " behind " + ahead, stands || isLand ? 1 : 0, bytes.indexOf(b) >= 0 ? 1 : 0);
        }
    }

    // "figures, 2 at most"; "a run of three figures, at its first"
    private static void figuresTwoAtMost() {
        String[] texts = {"f#;g0,0;", "f1;g#,0;", "f1;c#,0;", "f1;g0,#;", TWO + "r#,1;", TWO + "r1,#;", ONE + "o#;"};
        for (String text : texts) {
            int place = text.indexOf('#');
            for (String run : new String[] {"000", "001", "100", "0000", "00000", "999", "4294967297"}) {
                Due.faulty(text.replace("#", run), place, CANNOT_STAND);
            }
            Due.faulty(text.substring(0, place) + "0".repeat(120 - place), place, CANNOT_STAND);
            Due.faulty(text.substring(0, place) + "111", place, CANNOT_STAND);
        }
        Due.faulty("1", 0, CANNOT_STAND);
        Due.faulty("0".repeat(120), 0, CANNOT_STAND);
        Due.faulty("f 1;g0,0;", 1, CANNOT_STAND);
        Due.faulty("f1 ;g0,0;", 2, CANNOT_STAND);
        Due.faulty("f1" + (char) 0 + ";g0,0;", 2, CANNOT_STAND);
        Due.faulty("f/;", 1, CANNOT_STAND);
        Due.faulty("f:;", 1, CANNOT_STAND);
        Due.faulty("f1/;", 2, CANNOT_STAND);
        Due.faulty("f1:;", 2, CANNOT_STAND);
    }

    // "f LASTS ; (1 to 9 DAYS)"
    private static void lastsOneToNine() {
        numbers("f", ";g0,0;", 1, 9, 1);
        for (int lasts = 1; lasts <= 9; lasts++) {
            WinterWalk x = Due.told("f" + lasts + ";g0,0;o0;");
            x.days(1);
            Due.due("LASTS " + lasts, x.village(0, 3), lasts);
        }
    }

    // "g WORTH , OFFER ; or c COST , OFFER ; (0 to 9; ..; COST is WORTH below 0)"
    private static void worthAndCostNoneToNine() {
        numbers("f1;g", ",0;", 0, 9, 1);
        numbers("f1;c", ",0;", 0, 9, 1);
        for (int v = 0; v <= 9; v++) {
            WinterWalk x = Due.told("f1;g" + v + ",0;c0" + v + ",0;");
            Due.due("WORTH " + v, x.village(0, 0), v);
            Due.due("COST " + v, x.village(1, 0), -v);
        }
    }

    // "(..; 0 to 20; ..)"
    private static void offerNoneToTwenty() {
        numbers("f1;g0,", ";", 0, 20, 1);
        numbers("f1;c0,", ";", 0, 20, 1);
        for (int v = 0; v <= 20; v++) {
            Due.due("OFFER " + v, Due.told("f1;g9," + v + ";").village(0, 1), v);
        }
    }

    /** Of 0 to 99, of one figure and of two, those from least to most are as told. */
    private static void numbers(String ahead, String behind, int least, int most, int villages) {
        for (int number = 0; number <= 99; number++) {
            String two = number < 10 ? "0" + number : "" + number;
            for (String told : new String[] {"" + number, two}) {
                if (least <= number && number <= most) {
                    Due.reads(ahead + told + behind, villages);
                } else {
                    Due.faulty(ahead + told + behind, ahead.length(), WRONG_NUMBER);
                }
            }
        }
    }

    // "land: law village { village } .."; "VILLAGES 0 .. 7, 8 at most"
    private static void villagesOneToEight() {
        Due.faulty("f1;", 3, CANNOT_STAND);
        Due.faulty("f1;r0,1;", 3, CANNOT_STAND);
        Due.faulty("f1;o0;", 3, CANNOT_STAND);
        for (int many = 1; many <= 8; many++) {
            Due.reads("f1;" + "g0,0;".repeat(many), many);
        }
        Due.faulty("f1;" + "g0,0;".repeat(9), 43, NO_ROOM);
        Due.faulty("f1;" + "c0,0;".repeat(9), 43, NO_ROOM);
        Due.faulty("f1;" + "g0,0;".repeat(23), 43, NO_ROOM);
        Due.faulty("f1;" + "g0,0;".repeat(8) + "g", 43, NO_ROOM);
        Due.faulty("f1;" + "g0,0;".repeat(8) + "c99,99;", 43, NO_ROOM);
        WinterWalk x = Due.told(Worlds.EIGHT);
        Due.due("VILLAGE 7", x.village(7, 4), 0);
        Due.due("VILLAGE 8", x.village(8, 4), Due.BAD);
    }

    // "12 at most"
    private static void roadsNoneToTwelve() {
        for (int many = 0; many <= 12; many++) {
            String text = Worlds.EIGHT + Worlds.TWELVE.substring(0, 5 * many);
            Due.reads(text, 8);
            Due.due("roads", Due.told(text).count(2), many);
        }
        Due.faulty(Worlds.EIGHT + Worlds.TWELVE + "r1,7;", 103, NO_ROOM);
        Due.faulty(Worlds.EIGHT + Worlds.TWELVE + "r", 103, NO_ROOM);
        Due.faulty(Worlds.EIGHT + Worlds.TWELVE + "r9,9;", 103, NO_ROOM);
        Due.faulty(Worlds.EIGHT + Worlds.TWELVE + "r1,7;r", 103, NO_ROOM);
        Due.reads(Worlds.EIGHT + Worlds.TWELVE + "o0;", 8);
    }

    // "WALKERS 0 .. 2, 3 at most"
    private static void walkersNoneToThree() {
        String walkers = "o0;s0;l0;";
        for (int many = 0; many <= 3; many++) {
            Due.reads(ONE + walkers.substring(0, 3 * many), 1);
            Due.due("WALKERS", Due.told(ONE + walkers.substring(0, 3 * many)).count(3), many);
        }
        for (char sort : "oslte".toCharArray()) {
            Due.faulty(ONE + walkers + sort + "0;", 17, NO_ROOM);
            Due.faulty(ONE + walkers + sort, 17, NO_ROOM);
            Due.faulty(ONE + walkers + sort + "9;", 17, NO_ROOM);
        }
        WinterWalk x = Due.told(ONE + walkers);
        Due.due("WALKER 2", x.walker(2, 0), 0);
        Due.due("WALKER 3", x.walker(3, 0), Due.BAD);
    }

    // "r A , B ; (VILLAGES told, ..)"
    private static void roadsBetweenVillagesTold() {
        for (int many = 2; many <= 8; many++) {
            String villages = "f1;" + "g0,0;".repeat(many);
            numbers(villages + "r", "," + (many - 1) + ";", 0, many - 2, many, many - 1);
            numbers(villages + "r0,", ";", 1, many - 1, many);
        }
        Due.faulty(ONE + "r0,1;", 11, WRONG_NUMBER);
        Due.faulty(ONE + "r1,0;", 9, WRONG_NUMBER);
        Due.faulty(ONE + "r0,0;", 11, WRONG_NUMBER);
        Due.faulty(TWO + "r2,2;", 14, WRONG_NUMBER);
    }

    /** As above, but that a number like B is found at fault not at A, but at B. */
    private static void numbers(String ahead, String behind, int least, int most, int villages, int b) {
        for (int number = 0; number <= 99; number++) {
            String text = ahead + number + behind;
            if (least <= number && number <= most) {
                Due.reads(text, villages);
            } else {
                Due.faulty(text, number == b ? text.length() - 2 : ahead.length(), WRONG_NUMBER);
            }
        }
    }

    // "unlike"
    private static void roadsBetweenTheUnlike() {
        for (int v = 0; v < 8; v++) {
            Due.faulty(Worlds.EIGHT + "r" + v + "," + v + ";", 46, WRONG_NUMBER);
            Due.faulty(Worlds.EIGHT + "r" + v + ",0" + v, 46, WRONG_NUMBER);
        }
    }

    // "no two roads between the same"
    private static void noTwoRoadsBetweenTheSame() {
        for (int a = 0; a < 8; a++) {
            for (int b = 0; b < 8; b++) {
                if (a != b) {
                    String text = Worlds.EIGHT + "r" + a + "," + b + ";";
                    Due.faulty(text + "r" + a + "," + b + ";", 51, WRONG_NUMBER);
                    Due.faulty(text + "r" + b + "," + a + ";", 51, WRONG_NUMBER);
                    Due.due("where the road leads", Due.told(text).village(a, 5), 1 << b);
                    Due.due("and back", Due.told(text).village(b, 5), 1 << a);
                }
            }
        }
    }

    // "a VILLAGE told"
    private static void walkersAtVillagesTold() {
        for (int many = 1; many <= 8; many++) {
            String villages = "f1;" + "g0,0;".repeat(many);
            for (char sort : "oslte".toCharArray()) {
                numbers(villages + sort, ";", 0, many - 1, many);
            }
        }
    }

    private static void theEndAtEveryPlace() {
        String text = "f1;g4,05;c2,9;r0,1;o0;s01;e1;";
        for (int end = 0; end < text.length(); end++) {
            String part = text.substring(0, end);
            boolean isLand = end > 3 && part.endsWith(";");
            if (isLand) {
                Due.reads(part, end < 14 ? 1 : 2);
            } else {
                Due.faulty(part, end, CANNOT_STAND);
            }
        }
    }

    // "FAULTS, the first TOKEN that has one (its first byte)"
    private static void theFirstTokenThatHasOne() {
        Due.faulty("f0;x", 1, WRONG_NUMBER);
        Due.faulty("f00", 1, WRONG_NUMBER);
        Due.faulty("f10", 1, WRONG_NUMBER);
        Due.faulty("f1;g10;", 4, WRONG_NUMBER);
        Due.faulty("f1;g0,21", 6, WRONG_NUMBER);
        Due.faulty(TWO + "r0,0", 16, WRONG_NUMBER);
        Due.faulty(TWO + "r0,1;r0,1", 21, WRONG_NUMBER);
        Due.faulty(TWO + "r0,1,", 17, CANNOT_STAND);
        Due.faulty(TWO + "r2;0,", 14, WRONG_NUMBER);
        Due.faulty(TWO + "o0,o9;", 15, CANNOT_STAND);
        Due.faulty(TWO + "o0;o9;x", 17, WRONG_NUMBER);
        Due.faulty(Worlds.EIGHT + "g!", 43, NO_ROOM);
        Due.faulty("f1;g0,0;g0,0;;" + "g0,0;".repeat(9), 13, CANNOT_STAND);
        Due.faulty("ff", 1, CANNOT_STAND);
        Due.faulty("fg0,0;", 1, CANNOT_STAND);
    }

    // "of one TOKEN the least"
    private static void ofOneTokenTheLeast() {
        Due.faulty("f100;", 1, CANNOT_STAND);
        Due.faulty("f99;", 1, WRONG_NUMBER);
        Due.faulty("f1;99", 3, CANNOT_STAND);
        Due.faulty("f1;g0,99;", 6, WRONG_NUMBER);
        Due.faulty("f1;g0,099;", 6, CANNOT_STAND);
        Due.faulty(Worlds.EIGHT + "r0,1;g", 48, CANNOT_STAND);
        Due.faulty(Worlds.EIGHT + "r0,1;c0,0;", 48, CANNOT_STAND);
        Due.faulty(Worlds.EIGHT + "o0;g", 46, CANNOT_STAND);
        Due.faulty(Worlds.EIGHT + Worlds.TWELVE + "o0;r", 106, CANNOT_STAND);
        Due.faulty(Worlds.EIGHT + Worlds.TWELVE + "g", 103, CANNOT_STAND);
        Due.faulty(ONE + "o0;o0;o0;r", 17, CANNOT_STAND);
        Due.faulty(ONE + "o0;o0;o0;f", 17, CANNOT_STAND);
    }

    // "-1000100 less the place of a FAULT: all stays", but for the tape, "empty then", and fault()
    private static void atAFaultAllStays() {
        String[] texts = {"f1;g1,1;x", "f1;g1,1;o9;", "f1;g1,1;o0;o0;o0;o0;"};
        int[] places = {8, 9, 17};
        for (int fault = CANNOT_STAND; fault <= NO_ROOM; fault++) {
            for (int part = 0; part < Everything.PARTS; part++) {
                WinterWalk x = Worlds.busyAfterFault(fault);
                Due.feedAll(x, texts[fault - 1]);
                Due.due("land()", x.land(), -1000100 - places[fault - 1]);
                Due.due("fault()", x.fault(), fault);
                Due.due("status()", x.status(), 5);
                String due = Everything.part(part, Worlds.busyAfterFault(fault));
                Due.same("all stays, FAULT " + fault + " part " + part, Everything.part(part, x), due);
            }
        }
    }

    // "The number of the latest FAULT; 0 before one"
    private static void theLatestFault() {
        WinterWalk x = new WinterWalk();
        Due.due("a new object", x.fault(), 0);
        tell(x, ONE, 1, 0);
        tell(x, "f1;" + "g0,0;".repeat(9), -1000143, NO_ROOM);
        tell(x, "f0;", -1000101, WRONG_NUMBER);
        tell(x, ONE, 1, WRONG_NUMBER);
        tell(x, "x", -1000100, CANNOT_STAND);
        tell(x, ONE + "o3;", -1000109, WRONG_NUMBER);
        tell(x, ONE + "o0;o0;o0;o0;", -1000117, NO_ROOM);
        tell(x, ONE, 1, NO_ROOM);
    }

    private static void tell(WinterWalk x, String text, int answer, int fault) {
        Due.feedAll(x, text);
        Due.due("land() of " + text, x.land(), answer);
        Due.due("fault() behind " + text, x.fault(), fault);
        Due.due("bytes behind " + text, x.count(8), 0);
    }

    // "A LAND that is read stands in place of the one before .. no ACT can be undone"
    private static void aLandInPlaceOfAnother() {
        String[] texts = {ONE, TWO + "r0,1;e1;", Worlds.EIGHT + Worlds.TWELVE + "t7;l6;s5;"};
        Edge.World[] worlds = {Worlds::busy, Worlds::full, Worlds::still, Worlds::alone};
        for (String text : texts) {
            for (Edge.World world : worlds) {
                WinterWalk x = toldAnew(world, text);
                Due.same("the LAND is as if it were the first", Due.landSeen(x), Due.landSeen(Due.told(text)));
                Due.due("DAY", x.count(4), 0);
                Due.due("ACTS", x.count(7), 0);
                Due.due("undo()", x.undo(), Due.STATE);
            }
            String due = Everything.part(1, Due.told(text));
            Due.same("what comes, too", Everything.part(1, toldAnew(Worlds::busy, text)), due);
            Due.same("what comes, too", Everything.part(1, toldAnew(Worlds::still, text)), due);
        }
    }

    private static WinterWalk toldAnew(Edge.World world, String text) {
        WinterWalk x = world.anew();
        x.land();
        Due.feedAll(x, text);
        x.land();
        return x;
    }

    /** What the document does not name stays when a LAND is read: ROWS, IMAGES, THE TRACE, status. */
    private static void whatALandLeaves() {
        WinterWalk x = Worlds.busyAfterFault(2);
        WinterWalk twin = Worlds.busyAfterFault(2);
        Due.feedAll(x, ONE);
        x.land();
        Due.due("ROWS", x.count(0), 4);
        Due.due("status()", x.status(), 5);
        Due.due("THE TRACE", x.trace(0), 11);
        Due.same("an IMAGE", Everything.part(3, x), Everything.part(3, twin));
        Due.same("ITEMS", Everything.itemsOf(x, 1), "120011");
    }
}
