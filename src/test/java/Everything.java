/**
 * All that can be asked of an object but status(), which a call with a FINDING may
 * change. It is asked in parts, each of an object of its own: what a part asks may
 * change the object, and no object is to be called more than 512 times.
 */
final class Everything {
    private static final int BEFORE_ROWS = 5, ROWS = 8;
    static final int PARTS = BEFORE_ROWS + ROWS;
    private static final String THREE_WHO_STAY = "f1;g0,0;g0,0;g0,0;o0;o1;o2;";

    private Everything() {
    }

    static String part(int part, WinterWalk x) {
        switch (part) {
            case 0: return now(x);
            case 1: return foretold(x);
            case 2: return undone(x);
            case 3: return images(x);
            case 4: return tape(x);
            default: return row(x, part - BEFORE_ROWS);
        }
    }

    private static String now(WinterWalk x) {
        StringBuilder text = new StringBuilder(Due.landSeen(x));
        for (int what : new int[] {0, 7, 8}) {
            text.append(x.count(what)).append(' ');
        }
        for (int i = 0; i <= 16; i++) {
            text.append(x.trace(i)).append(' ');
        }
        return text.append(x.fault()).toString();
    }

    private static String foretold(WinterWalk x) {
        StringBuilder text = new StringBuilder();
        for (int w = 0; w < x.count(3); w++) {
            text.append(x.ahead(w, 7, 0)).append(' ').append(x.ahead(w, 7, 1)).append(' ');
            text.append(x.ahead(w, 100, 0)).append(' ').append(x.round(w)).append(' ');
            for (int v = 0; v < x.count(1); v++) {
                text.append(x.late(w, 3, 4, v, 0)).append(' ');
            }
        }
        for (int v = 0; v < x.count(1); v++) {
            text.append(x.nights(v, 9)).append(' ').append(x.freezes(v, 9)).append(' ');
            text.append(x.lure(v, 4)).append(' ').append(x.keepsAway(v, 4, 1)).append(' ');
            text.append(x.bid(v, 4, 0)).append(' ').append(x.bid(v, 4, 1)).append(' ');
        }
        for (int k = -1; k <= 7; k++) {
            text.append(x.warn(k)).append(' ');
        }
        for (int what = 0; what <= 2; what++) {
            text.append(x.cold(9, what)).append(' ').append(x.meet(50, what)).append(' ');
            text.append(x.year(20, 77, what)).append(' ');
        }
        return text.append(x.rests(4)).toString();
    }

    private static String undone(WinterWalk x) {
        StringBuilder text = new StringBuilder();
        int left = 0;
        for (int i = 0; i < 25 && left != Due.STATE; i++) {
            left = x.undo();
            text.append(left).append(' ').append(x.count(4)).append(' ').append(x.count(5)).append(' ');
            text.append(x.village(i % 8, 1)).append(' ').append(x.village(i % 8, 2)).append(' ');
        }
        return text.append(Due.landSeen(x)).toString();
    }

    private static String images(WinterWalk x) {
        StringBuilder text = new StringBuilder();
        for (int k = 0; k <= 1; k++) {
            text.append(x.restore(k)).append(' ').append(Due.landSeen(x));
        }
        return text.toString();
    }

    /** What is on THE TAPE shows in what LAND, or what FAULT, it becomes with a WALKER more. */
    private static String tape(WinterWalk x) {
        StringBuilder text = new StringBuilder();
        text.append(x.feed('o')).append(' ').append(x.feed('0')).append(' ').append(x.feed(';')).append(' ');
        text.append(x.land()).append(' ').append(x.fault()).append(' ');
        return text.append(Due.landSeen(x)).toString();
    }

    private static String row(WinterWalk x, int row) {
        StringBuilder text = new StringBuilder(itemsOf(x, row));
        int other = (row + 1) % ROWS;
        for (int lane = 0; lane <= 2; lane++) {
            x.row(other, lane, 0);
            text.append(' ').append(x.copy(row, 0, other, 0, 0));
        }
        return text.append(' ').append(x.drop(row)).toString();
    }

    /**
     * The ITEMS of a ROW, as far as they are 0, 1 or 2, others as ?; "missing". Another
     * LAND is read for it: who stays in a VILLAGE fits that VILLAGE's number alone.
     */
    static String itemsOf(WinterWalk x, int row) {
        x.land();
        Due.feedAll(x, THREE_WHO_STAY);
        x.land();
        if (x.fits(0, row, 0, 1) == Due.NULL) {
            return "missing";
        }
        StringBuilder text = new StringBuilder();
        for (int i = 0; i <= 40 && x.fits(0, row, i, 1) != Due.PLACE; i++) {
            text.append(itemAt(x, row, i));
        }
        return text.toString();
    }

    private static char itemAt(WinterWalk x, int row, int i) {
        for (int village = 0; village <= 2; village++) {
            if (x.fits(village, row, i, 1) != 0) {
                return (char) ('0' + village);
            }
        }
        return '?';
    }
}
