/** Promises 1, 6 to 8 and 36: a new object, the tape, LANDS and FAULTS, counts. */
public final class TellingTest {
    private static final String EIGHT = Worlds.EIGHT;
    private static final String TWELVE = Worlds.TWELVE;

    public static void main(String[] args) {
        nothingIsThereAtFirst();
        bytesCome();
        landsAreRead();
        faultsOfTheFirstKind();
        faultsOfNumbers();
        faultsOfRoom();
        aLandStandsInPlaceOfAnother();
        Due.end("TellingTest");
    }

    private static void nothingIsThereAtFirst() {
        WinterWalk x = new WinterWalk();
        for (int what = 0; what <= 8; what++) {
            Due.due("count(" + what + ")", x.count(what), 0);
        }
        for (int what : new int[] {-1, 9, Integer.MIN_VALUE, Integer.MAX_VALUE}) {
            Due.due("count(" + what + ")", x.count(what), Due.BAD);
        }
        Due.due("fault()", x.fault(), 0);
        Due.due("status()", x.status(), 0);
        Due.due("trace(0)", x.trace(0), Due.NONE);
        Due.due("village(0, 0)", x.village(0, 0), Due.BAD);
        Due.due("days(0): STATE is ahead of BAD", x.days(0), Due.STATE);
        Due.due("cold(-1, 9)", x.cold(-1, 9), Due.STATE);
        Due.due("warn(-2)", x.warn(-2), Due.STATE);
        Due.due("rests(0)", x.rests(0), Due.STATE);
        Due.due("meet(0, 2)", x.meet(0, 2), Due.STATE);
        Due.due("year(-1, 0, 2)", x.year(-1, 0, 2), Due.STATE);
        Due.due("undo()", x.undo(), Due.STATE);
    }

    private static void bytesCome() {
        WinterWalk x = new WinterWalk();
        Due.due("feed(-1)", x.feed(-1), Due.BAD);
        Due.due("feed(256)", x.feed(256), Due.BAD);
        for (int i = 1; i <= 120; i++) {
            Due.due("feed(" + i + ")", x.feed(i), i);
        }
        Due.due("feed, the 121st", x.feed(0), Due.FULL);
        Due.due("BAD is ahead of FULL", x.feed(256), Due.BAD);
        Due.due("count(8)", x.count(8), 120);
        Due.due("land()", x.land(), -1000100);
        Due.due("count(8) then", x.count(8), 0);
        Due.due("feed then", x.feed(255), 1);
    }

    private static void landsAreRead() {
        WinterWalk x = new WinterWalk();
        Due.feedAll(x, "f9;g9,20;c9,0;c0,05;g00,1;r3,1;r0,2;e3;s1;o0;");
        Due.due("land()", x.land(), 4);
        Due.due("fault()", x.fault(), 0);
        Due.due("VILLAGES", x.count(1), 4);
        Due.due("roads", x.count(2), 2);
        Due.due("WALKERS", x.count(3), 3);
        Due.due("WORTH 0", x.village(0, 0), 9);
        Due.due("OFFER 0", x.village(0, 1), 20);
        Due.due("WORTH 1", x.village(1, 0), -9);
        Due.due("WORTH 2", x.village(2, 0), 0);
        Due.due("OFFER 2", x.village(2, 1), 5);
        Due.due("roads of 1", x.village(1, 5), 8);
        Due.due("roads of 3", x.village(3, 5), 2);
        Due.due("roads of 2", x.village(2, 5), 1);
        Due.due("kind(0)", x.kind(0), 5);
        Due.due("kind(1)", x.kind(1), 2);
        Due.due("kind(2)", x.kind(2), 1);
        Due.due("where 0 is", x.walker(0, 0), 3);
        Due.due("where 1 is", x.walker(1, 0), 1);
        String fullest = EIGHT + TWELVE + "t7;l0;o1;";
        Due.due("the fullest LAND but for a few bytes", Due.feedAll(x, fullest), 112);
        Due.due("land()", x.land(), 8);
        Due.due("roads", x.count(2), 12);
        Due.due("kind(0)", x.kind(0), 4);
        Due.due("kind(1)", x.kind(1), 3);
        Due.reads("f1;g0,0;", 1);
        Due.reads("f09;g0,0;", 1);
    }

    private static void faultsOfTheFirstKind() {
        Due.faulty("", 0, 1);
        Due.faulty("g0,0;", 0, 1);
        Due.faulty("F1;", 0, 1);
        Due.faulty("f", 1, 1);
        Due.faulty("ff", 1, 1);
        Due.faulty("f;", 1, 1);
        Due.faulty("f1", 2, 1);
        Due.faulty("f1,", 2, 1);
        Due.faulty("f111;", 1, 1);
        Due.faulty("f1234567;", 1, 1);
        Due.faulty("f001;", 1, 1);
        Due.faulty("111", 0, 1);
        Due.faulty("f1;", 3, 1);
        Due.faulty("f1;o0;", 3, 1);
        Due.faulty("f1;r0,1;", 3, 1);
        Due.faulty("f1;1", 3, 1);
        Due.faulty("f1; g0,0;", 3, 1);
        Due.faulty("f1;g0;0;", 5, 1);
        Due.faulty("f1;g,0;", 4, 1);
        Due.faulty("f1;g-1,0;", 4, 1);
        Due.faulty("f1;g0,0", 7, 1);
        Due.faulty("f1;g0,0;;", 8, 1);
        Due.faulty("f1;g0,0;x", 8, 1);
        Due.faulty("f1;g0,0;f1;", 8, 1);
        Due.faulty("f1;g0,0;" + (char) 255, 8, 1);
        Due.faulty("f1;g0,0;g0,0;r0,1;g0,0;", 18, 1);
        Due.faulty("f1;g0,0;g0,0;o0;g0,0;", 16, 1);
        Due.faulty("f1;g0,0;g0,0;o0;r0,1;", 16, 1);
        Due.faulty("f1;g0,0;g0,0;r0;", 15, 1);
        Due.faulty("f1;g0,0;g0,0;r0,1", 17, 1);
        Due.faulty("f1;g0,0;o", 9, 1);
        Due.faulty("f1;g0,0;o0", 10, 1);
        Due.faulty("f1;g0,0;o0,", 10, 1);
        Due.faulty("f1;g0,000;", 6, 1);
    }

    private static void faultsOfNumbers() {
        Due.faulty("f0;g0,0;", 1, 2);
        Due.faulty("f10;g0,0;", 1, 2);
        Due.faulty("f00", 1, 2);
        Due.faulty("f1;g10,0;", 4, 2);
        Due.faulty("f1;c10,0;", 4, 2);
        Due.faulty("f1;g9,21;", 6, 2);
        Due.faulty("f1;g0,0;g0,0;r2,0;", 14, 2);
        Due.faulty("f1;g0,0;g0,0;r0,2;", 16, 2);
        Due.faulty("f1;g0,0;g0,0;r1,1;", 16, 2);
        Due.faulty("f1;g0,0;g0,0;r0,1;r0,1;", 21, 2);
        Due.faulty("f1;g0,0;g0,0;r0,1;r1,0#", 21, 2);
        Due.faulty("f1;g0,0;g0,0;r2,2", 14, 2);
        Due.faulty("f1;g0,0;g0,0;o2;", 14, 2);
        Due.faulty("f1;g0,0;o99", 9, 2);
    }

    private static void faultsOfRoom() {
        Due.faulty(EIGHT + "g0,0;", 43, 3);
        Due.faulty(EIGHT + "c", 43, 3);
        Due.faulty(EIGHT + TWELVE + "r1,7;", 103, 3);
        Due.faulty(EIGHT + TWELVE + "r0,1;", 103, 3);
        Due.faulty(EIGHT + TWELVE + "g", 103, 1);
        Due.faulty(EIGHT + TWELVE + "o0;r", 106, 1);
        Due.faulty("f1;g0,0;o0;o0;o0;o0;", 17, 3);
        Due.faulty("f1;g0,0;o0;s0;l0;e", 17, 3);
        Due.faulty("f1;g0,0;o0;s0;l0;g", 17, 1);
        Due.faulty("f1;g0,0;o0;s0;l0;x", 17, 1);
    }

    private static void aLandStandsInPlaceOfAnother() {
        WinterWalk x = Due.told("f3;g5,0;g5,0;g5,0;r0,1;r1,2;o0;t1;");
        x.days(5);
        x.offer(1, 7);
        x.door(2, 1);
        String ahead = Due.seen(x);
        Due.feedAll(x, "f1;g0,0;o7;");
        Due.due("a FAULT", x.land(), -1000109);
        Due.due("fault()", x.fault(), 2);
        String behind = Due.seen(x);
        Due.same("all stays at a FAULT", behind.replaceAll(" 2 0$", " 0 0"), ahead);
        Due.due("ACTS stay", x.undo(), 6);
        Due.feedAll(x, "f1;g0,3;g0,4;r0,1;o0;");
        Due.due("land()", x.land(), 2);
        Due.due("fault() stays", x.fault(), 2);
        int[] counts = {0, 2, 1, 1, 0, 0, 0, 0, 0};
        for (int what = 0; what <= 8; what++) {
            Due.due("count(" + what + ")", x.count(what), counts[what]);
        }
        for (int v = 0; v < 2; v++) {
            Due.due("no door is shut", x.village(v, 2), 0);
            Due.due("nothing is frozen", x.village(v, 3), 0);
            Due.due("nobody slept anywhere", x.village(v, 4), 0);
        }
        Due.due("it has not gone yet", x.walker(0, 1), Due.NONE);
        Due.due("the village that was", x.village(2, 0), Due.BAD);
        Due.due("the walker that was", x.walker(1, 0), Due.BAD);
        Due.due("undo()", x.undo(), Due.STATE);
    }
}
