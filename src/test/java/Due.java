/** What the tests share: answers held against what is due, and a LAND told at once. */
final class Due {
    static final int NONE = -1000000, BAD = -1000001, STATE = -1000002, FULL = -1000003;
    static final int NULL = -1000011, PLACE = -1000012, KIND = -1000013, SIZE = -1000014, STORE = -1000015;
    static final int[] STRANGE = {-1, -2, 1000, Integer.MIN_VALUE, Integer.MAX_VALUE};

    private static int held = 0;
    private static int wrong = 0;

    private Due() {
    }

    static void due(String call, long got, long want) {
        held++;
        if (got != want) {
            wrong++;
            System.out.println(call + " answered " + got + ", due is " + want);
        }
    }

    static int feedAll(WinterWalk x, String text) {
        int last = 0;
        for (int i = 0; i < text.length(); i++) {
            last = x.feed(text.charAt(i));
        }
        return last;
    }

    static WinterWalk told(String text) {
        WinterWalk x = new WinterWalk();
        feedAll(x, text);
        if (x.land() < 0) {
            throw new IllegalStateException("no land: " + text);
        }
        return x;
    }

    /** The text is a LAND of that many VILLAGES. */
    static void reads(String text, int villages) {
        WinterWalk x = new WinterWalk();
        feedAll(x, text);
        due("land() of " + text, x.land(), villages);
        due("fault() of " + text, x.fault(), 0);
        due("the tape of " + text, x.count(8), 0);
    }

    /** The text has a FAULT at a place. */
    static void faulty(String text, int place, int fault) {
        WinterWalk x = new WinterWalk();
        feedAll(x, text);
        due("land() of " + text, x.land(), -1000100 - place);
        due("fault() of " + text, x.fault(), fault);
        due("no LAND from " + text, x.count(1), 0);
        due("the tape of " + text, x.count(8), 0);
    }

    /** A ROW with these ITEMS. */
    static void lay(WinterWalk x, int row, int lane, int... items) {
        x.row(row, lane, items.length);
        for (int i = 0; i < items.length; i++) {
            x.set(row, i, items[i]);
        }
    }

    /** All that can be seen of an object without a change, but for the foretellings. */
    static String seen(WinterWalk x) {
        StringBuilder text = new StringBuilder(landSeen(x));
        text.append(x.count(0)).append(' ').append(x.count(7)).append(' ').append(x.count(8)).append(' ');
        for (int i = 0; i < 16; i++) {
            text.append(x.trace(i)).append(' ');
        }
        return text.append(x.fault()).append(' ').append(x.status()).toString();
    }

    /** All that can be seen of the LAND. */
    static String landSeen(WinterWalk x) {
        StringBuilder text = new StringBuilder();
        for (int what = 1; what <= 6; what++) {
            text.append(x.count(what)).append(' ');
        }
        for (int v = 0; v < x.count(1); v++) {
            for (int what = 0; what <= 5; what++) {
                text.append(x.village(v, what)).append(' ');
            }
        }
        for (int w = 0; w < x.count(3); w++) {
            for (int what = 0; what <= 2; what++) {
                text.append(x.walker(w, what)).append(' ');
            }
            text.append(x.kind(w)).append(' ');
        }
        return text.toString();
    }

    static void same(String what, String got, String want) {
        held++;
        if (!got.equals(want)) {
            wrong++;
            System.out.println(what + ":\n  is  " + got + "\n  due " + want);
        }
    }

    static void end(String test) {
        System.out.println(test + ": " + held + " answers held, " + wrong + " wrong");
        if (wrong != 0) {
            System.exit(1);
        }
    }
}
