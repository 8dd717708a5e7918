/** The states in which edges are tried; each of these makes an object anew. */
final class Worlds {
    static final String EIGHT = "f1;g0,0;g0,0;g0,0;g0,0;g0,0;g0,0;g0,0;g0,0;";
    static final String TWELVE = "r0,1;r0,2;r0,3;r0,4;r0,5;r0,6;r0,7;r1,2;r1,3;r1,4;r1,5;r1,6;";
    private static final String[] FAULTY_TEXTS = {"", "f1;", "f0;", "f1;g0,0;o0;o0;o0;o0;"};

    private Worlds() {
    }

    static WinterWalk none() {
        return new WinterWalk();
    }

    /** Some of everything: five VILLAGES, three WALKERS, four ROWS, an IMAGE, ACTS, bytes on the tape. */
    static WinterWalk busy() {
        WinterWalk x = busyAfterFault(2);
        Due.feedAll(x, "f2;g1,1;");
        return x;
    }

    /** The same with nothing on the tape, the latest FAULT being of a number. */
    static WinterWalk busyAfterFault(int fault) {
        WinterWalk x = new WinterWalk();
        Due.feedAll(x, FAULTY_TEXTS[fault]);
        x.land();
        Due.feedAll(x, "f3;g4,5;c2,9;g0,3;c7,0;g9,12;r0,1;r1,2;r2,3;r3,4;r4,0;r1,3;o0;l2;t4;");
        x.land();
        x.days(3);
        x.offer(2, 11);
        x.door(3, 1);
        x.image(0);
        x.days(2);
        Due.lay(x, 0, 0, 0, 1, 2, 1, 0, 2);
        Due.lay(x, 1, 1, 1, 2, 0, 0, 1, 1);
        Due.lay(x, 2, 2, 2, 2, 1, 0, 0, 1);
        Due.lay(x, 3, 0);
        x.ask(1, 0);
        x.copy(0, 0, 1, 0, 1);
        return x;
    }

    /** As much of everything as there is room for. */
    static WinterWalk full() {
        WinterWalk x = Due.told(EIGHT + TWELVE + "o0;t1;s7;");
        pass(x, 999);
        x.image(0);
        x.image(1);
        for (int i = 0; i < 8; i++) {
            x.door(i, 1);
            x.row(i, i % 3, 40);
            x.set(i, 39, 1);
        }
        for (int i = 0; i < 120; i++) {
            x.feed('f');
        }
        return x;
    }

    /** A LAND in which nobody goes. */
    static WinterWalk still() {
        return Due.told("f9;g1,0;c2,20;g3,1;r0,1;r1,2;");
    }

    /** A LAND of one VILLAGE and one WALKER. */
    static WinterWalk alone() {
        return Due.told("f1;g3,4;o0;");
    }

    /**
     * A sister who was k times in 0, and now goes from 1 to 2 until she was there as
     * often, more DAYS of which are gone: on DAY 2 k - more from now on she is in 0
     * again, and on the next in 3 for the first time.
     */
    static WinterWalk sisterHeldBack(int k, int more) {
        WinterWalk x = Due.told("f1;g0,0;g0,0;g0,0;g5,0;r0,1;r1,2;r0,3;t1;");
        x.door(2, 1);
        x.door(3, 1);
        for (int i = 0; i < k; i++) {
            x.days(2);
        }
        x.door(2, 0);
        x.door(3, 0);
        if (more > 0) {
            x.days(more);
        }
        return x;
    }

    /** One who goes along eight VILLAGES, and back again. */
    static WinterWalk alongEight(int lasts) {
        String line = "r0,1;r1,2;r2,3;r3,4;r4,5;r5,6;r6,7;";
        return Due.told("f" + lasts + ";" + "g0,0;".repeat(8) + line + "l0;");
    }

    /** DAYS by the dozen. */
    static void pass(WinterWalk x, int days) {
        for (int left = days; left > 0; left -= 24) {
            x.days(Math.min(left, 24));
        }
    }
}
