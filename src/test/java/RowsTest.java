/** Promises 2 to 5 and 37: ROWS and status. */
public final class RowsTest {
    public static void main(String[] args) {
        rowsAreLaid();
        itemsAreCut();
        itemsAreCopied();
        rowsAreDropped();
        statusIsKept();
        Due.end("RowsTest");
    }

    private static void rowsAreLaid() {
        WinterWalk x = new WinterWalk();
        Due.due("row(0, 0, 0)", x.row(0, 0, 0), 0);
        Due.due("row(7, 2, 40)", x.row(7, 2, 40), 40);
        Due.due("count(0)", x.count(0), 2);
        Due.due("row(7, 2, 41)", x.row(7, 2, 41), Due.BAD);
        Due.due("row(8, 2, 1)", x.row(8, 2, 1), Due.BAD);
        Due.due("row(-1, 2, 1)", x.row(-1, 2, 1), Due.BAD);
        Due.due("row(0, -1, 1)", x.row(0, -1, 1), Due.BAD);
        Due.due("row(0, 3, -1): BAD is ahead of SIZE", x.row(0, 3, -1), Due.BAD);
        Due.due("row(7, 1, -1)", x.row(7, 1, -1), Due.SIZE);
        Due.due("row(7, 1, least)", x.row(7, 1, Integer.MIN_VALUE), Due.SIZE);
        Due.due("what is found changes nothing", x.drop(7), 40);
        // who can only stay in 0 fits every KIND by ITEMS that are 0, and by no others
        WinterWalk y = Due.told("f1;g0,0;o0;");
        Due.lay(y, 1, 2, 5, 5, 5);
        Due.due("ITEMS as they were set", y.fits(0, 1, 0, 3), 0);
        Due.due("row(1, 0, 3) in place of that", y.row(1, 0, 3), 3);
        Due.due("ITEMS are 0 at first", y.fits(0, 1, 0, 3), 62);
    }

    private static void itemsAreCut() {
        WinterWalk x = new WinterWalk();
        x.row(0, 0, 2);
        x.row(1, 1, 2);
        x.row(2, 2, 2);
        Due.due("byte 127", x.set(0, 0, 127), 127);
        Due.due("byte 128", x.set(0, 0, 128), -128);
        Due.due("byte 256", x.set(0, 0, 256), 0);
        Due.due("byte -129", x.set(0, 1, -129), 127);
        Due.due("short 32768", x.set(1, 0, 32768), -32768);
        Due.due("short 65537", x.set(1, 1, 65537), 1);
        Due.due("int least", x.set(2, 0, Integer.MIN_VALUE), Integer.MIN_VALUE);
        Due.due("set(0, 2, 1)", x.set(0, 2, 1), Due.PLACE);
        Due.due("set(0, -1, 1)", x.set(0, -1, 1), Due.PLACE);
        Due.due("set(0, most, 1)", x.set(0, Integer.MAX_VALUE, 1), Due.PLACE);
        Due.due("set(3, -1, 1)", x.set(3, -1, 1), Due.NULL);
        Due.due("set(8, 0, 1)", x.set(8, 0, 1), Due.BAD);
        Due.due("set(-1, 0, 1)", x.set(-1, 0, 1), Due.BAD);
        x.row(3, 0, 0);
        Due.due("an empty row has no place", x.set(3, 0, 1), Due.PLACE);
    }

    private static void itemsAreCopied() {
        // where a WALKER sleeps tells, by fits(), what the ITEMS are: 1 0 1 0 ..
        WinterWalk x = Due.told("f1;g0,0;g0,0;r0,1;o0;");
        Due.lay(x, 0, 2, 1, 0, 1, 0, 9, 9);
        Due.lay(x, 1, 2, 9, 9, 9, 9, 9, 9);
        Due.due("copy(0, 0, 1, 2, 4)", x.copy(0, 0, 1, 2, 4), 4);
        Due.due("copied ITEMS", x.fits(0, 1, 2, 4) & 2, 2);
        Due.due("those ahead are as they were", x.fits(0, 1, 1, 1), 0);
        Due.due("a row onto itself, forwards", x.copy(0, 0, 0, 2, 4), 4);
        Due.due("ITEMS as they were ahead", x.fits(0, 0, 0, 6) & 2, 2);
        Due.due("a row onto itself, backwards", x.copy(1, 2, 1, 0, 4), 4);
        Due.due("ITEMS as they were ahead", x.fits(0, 1, 0, 4) & 2, 2);
        Due.due("none at an end", x.copy(0, 6, 1, 6, 0), 0);
        Due.due("none beyond an end", x.copy(0, 7, 1, 6, 0), Due.PLACE);
        Due.due("n below 0", x.copy(0, 2, 1, 2, -1), Due.PLACE);
        Due.due("i below 0", x.copy(0, -1, 1, 2, 1), Due.PLACE);
        Due.due("j below 0", x.copy(0, 1, 1, -1, 1), Due.PLACE);
        Due.due("beyond the end of a", x.copy(0, 3, 1, 0, 4), Due.PLACE);
        Due.due("beyond the end of b", x.copy(0, 0, 1, 3, 4), Due.PLACE);
        Due.due("far beyond", x.copy(0, Integer.MAX_VALUE, 1, 0, Integer.MAX_VALUE), Due.PLACE);
        Due.due("n far too great", x.copy(0, 1, 1, 1, Integer.MAX_VALUE), Due.PLACE);
        x.row(2, 1, 6);
        Due.due("two LANES", x.copy(0, 0, 2, 0, 1), Due.STORE);
        Due.due("STORE is ahead of PLACE", x.copy(0, -1, 2, 0, 1), Due.STORE);
        Due.due("NULL is ahead of STORE", x.copy(3, 0, 2, 0, 1), Due.NULL);
        Due.due("NULL, of b", x.copy(2, 0, 3, 0, 1), Due.NULL);
        Due.due("BAD is ahead of NULL", x.copy(3, 0, 8, 0, 1), Due.BAD);
        Due.due("BAD, of a", x.copy(-1, 0, 0, 0, 1), Due.BAD);
    }

    private static void rowsAreDropped() {
        WinterWalk x = new WinterWalk();
        x.row(5, 1, 13);
        Due.due("drop(5)", x.drop(5), 13);
        Due.due("count(0)", x.count(0), 0);
        Due.due("drop(5) again", x.drop(5), Due.NULL);
        Due.due("set(5, 0, 0)", x.set(5, 0, 0), Due.NULL);
        Due.due("drop(8)", x.drop(8), Due.BAD);
        Due.due("drop(-1)", x.drop(-1), Due.BAD);
    }

    private static void statusIsKept() {
        WinterWalk x = Due.told("f1;g0,0;g0,0;r0,1;o0;");
        Due.due("none yet", x.status(), 0);
        x.row(0, 0, -1);
        Due.due("SIZE", x.status(), 4);
        x.row(0, 9, 1);
        x.feed(999);
        x.undo();
        Due.due("BAD and STATE leave it", x.status(), 4);
        x.days(1);
        x.ask(0, 0);
        Due.due("calls without a ROW leave it", x.status(), 4);
        x.row(0, 0, 1);
        Due.due("row found nothing", x.status(), 0);
        x.set(0, 1, 1);
        Due.due("PLACE", x.status(), 2);
        x.set(0, 0, 1);
        Due.due("set found nothing", x.status(), 0);
        x.drop(1);
        Due.due("NULL", x.status(), 1);
        x.copy(0, 0, 0, 0, 1);
        Due.due("copy found nothing", x.status(), 0);
        x.row(1, 1, 1);
        x.copy(0, 0, 1, 0, 1);
        Due.due("STORE", x.status(), 5);
        x.drop(1);
        Due.due("drop found nothing", x.status(), 0);
        x.as(0, 4);
        Due.due("KIND", x.status(), 3);
        x.as(0, 6);
        Due.due("as() that is BAD leaves it", x.status(), 3);
        x.as(0, 1);
        Due.due("as() found nothing", x.status(), 0);
        x.fits(0, 1, 0, 1);
        Due.due("fits: NULL", x.status(), 1);
        x.fits(0, 0, 0, 1);
        Due.due("fits found nothing", x.status(), 0);
        x.slept(0, 0, 1, 1, 0);
        Due.due("slept: PLACE", x.status(), 2);
        x.slept(0, 0, 0, 1, 0);
        Due.due("slept found nothing", x.status(), 0);
    }
}
