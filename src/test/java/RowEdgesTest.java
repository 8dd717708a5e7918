/** Promises 2 to 5: the edges of ROWS, LANES, ITEMS and places. */
public final class RowEdgesTest {
    private static final int MIN = Integer.MIN_VALUE, MAX = Integer.MAX_VALUE;

    public static void main(String[] args) {
        rowsAreMissingAtFirst();
        rowTakes();
        rowsHaveNoneToForty();
        itemsAreNoneAtFirst();
        aRowStandsInPlaceOfAnother();
        allEightRows();
        setTakes();
        setOnMissing();
        setAtPlaces();
        lanesCut();
        setChangesOneItem();
        copyTakes();
        copyOnMissing();
        copyBetweenLanes();
        copyAtPlaces();
        copyOfNone();
        copyOfAll();
        copyWhereItWas();
        findingsOfCopyInOrder();
        dropTakes();
        dropOfNoneAndAll();
        Due.end("RowEdgesTest");
    }

    // "ROWS 0 .. 7 are missing (at first)"
    private static void rowsAreMissingAtFirst() {
        for (int r = 0; r <= 7; r++) {
            int row = r;
            Edge.refused("set of a missing ROW " + r, Worlds::none, x -> x.set(row, 0, 1), Due.NULL);
            Edge.refused("drop of a missing ROW " + r, Worlds::none, x -> x.drop(row), Due.NULL);
            Edge.refused("copy of a missing ROW " + r, Worlds::none, x -> x.copy(row, 0, row, 0, 0), Due.NULL);
        }
        Due.due("ROWS of a new object", new WinterWalk().count(0), 0);
    }

    // "BAD: ROW, LANE, n above 40; SIZE"
    private static void rowTakes() {
        Edge.takes("row, row", Worlds::busy, (x, v) -> x.row(v, 0, 1), 0, 7);
        Edge.takes("row, lane", Worlds::busy, (x, v) -> x.row(0, v, 1), 0, 2);
        Edge.takes("row, n", Worlds::busy, (x, v) -> x.row(0, 0, v), 0, 40, Due.SIZE, Due.BAD);
        Edge.takes("row, n, of a missing one", Worlds::busy, (x, v) -> x.row(7, 2, v), 0, 40, Due.SIZE, Due.BAD);
        Edge.takes("row, n, where all is full", Worlds::full, (x, v) -> x.row(7, 1, v), 0, 40, Due.SIZE, Due.BAD);
        for (int wrong : new int[] {-1, MIN}) {
            Edge.refused("no ROW, no SIZE", Worlds::busy, x -> x.row(8, 0, wrong), Due.BAD);
            Edge.refused("no ROW below, no SIZE", Worlds::busy, x -> x.row(-1, 0, wrong), Due.BAD);
            Edge.refused("no LANE, no SIZE", Worlds::busy, x -> x.row(0, 3, wrong), Due.BAD);
            Edge.refused("no LANE below, no SIZE", Worlds::busy, x -> x.row(0, -1, wrong), Due.BAD);
        }
    }

    // "have a LANE (0 bytes, 1 shorts, 2 ints) and 0 to 40 ITEMS"
    private static void rowsHaveNoneToForty() {
        for (int lane = 0; lane <= 2; lane++) {
            for (int n : new int[] {0, 1, 39, 40}) {
                WinterWalk x = new WinterWalk();
                Due.due("row(3, " + lane + ", " + n + ")", x.row(3, lane, n), n);
                Due.due("the first behind its last ITEM", x.set(3, n, 1), Due.PLACE);
                Due.due("its last ITEM", x.set(3, n - 1, 1), n == 0 ? Due.PLACE : 1);
                Due.due("its size", x.drop(3), n);
            }
        }
    }

    // "ITEMS, 0 at first"
    private static void itemsAreNoneAtFirst() {
        for (int row = 0; row <= 7; row++) {
            WinterWalk x = new WinterWalk();
            x.row(row, 1, 40);
            Due.same("ITEMS at first", Everything.itemsOf(x, row), "0".repeat(40));
        }
    }

    // "A ROW of a LANE with n ITEMS, in place of what is there"
    private static void aRowStandsInPlaceOfAnother() {
        WinterWalk x = new WinterWalk();
        x.row(2, 2, 40);
        for (int i = 0; i < 40; i++) {
            x.set(2, i, 2);
        }
        Due.due("a shorter one", x.row(2, 0, 3), 3);
        Due.due("its LANE", x.set(2, 0, 128), -128);
        Due.due("it ends where it says", x.set(2, 3, 0), Due.PLACE);
        Due.due("ROWS", x.count(0), 1);
        Due.due("an empty one", x.row(2, 0, 0), 0);
        Due.due("an empty one is not missing", x.count(0), 1);
        Due.due("a longer one", x.row(2, 0, 40), 40);
        Due.same("nothing is left of the first", Everything.itemsOf(x, 2), "0".repeat(40));
        x.set(2, 39, 1);
        x.drop(2);
        Due.due("behind drop", x.row(2, 0, 40), 40);
        Due.same("nothing is left of that", Everything.itemsOf(x, 2), "0".repeat(40));
    }

    private static void allEightRows() {
        WinterWalk x = new WinterWalk();
        for (int row = 0; row <= 7; row++) {
            x.row(row, 2, 40);
            Due.due("ROWS", x.count(0), row + 1);
            x.set(row, 0, 1);
            x.set(row, 39, 2);
        }
        String ends = "1" + "0".repeat(38) + "2";
        for (int row = 0; row <= 7; row++) {
            Due.same("each has its own ITEMS, " + row, Everything.itemsOf(Worlds.full(), row), "0".repeat(39) + "1");
        }
        Due.same("the first", Everything.itemsOf(x, 0), ends);
        Due.same("the last", Everything.itemsOf(x, 7), ends);
        for (int row = 7; row >= 0; row--) {
            Due.due("drop(" + row + ")", x.drop(row), 40);
            Due.due("ROWS", x.count(0), row);
        }
    }

    // "BAD: ROW"
    private static void setTakes() {
        Edge.takes("set, row", Worlds::full, (x, v) -> x.set(v, 0, 1), 0, 7);
        Edge.refused("BAD is ahead of PLACE", Worlds::busy, x -> x.set(8, -1, 1), Due.BAD);
    }

    // "NULL; PLACE": a missing ROW has no places that could be asked for
    private static void setOnMissing() {
        for (int i : new int[] {MIN, -1, 0, 39, 40, MAX}) {
            Edge.refused("set of a missing ROW at " + i, Worlds::busy, x -> x.set(7, i, 1), Due.NULL);
        }
    }

    // "PLACE (no such place of a ROW)"
    private static void setAtPlaces() {
        Edge.takes("set, i of six", Worlds::busy, (x, v) -> x.set(0, v, 1), 0, 5, Due.PLACE, Due.PLACE);
        Edge.takes("set, i of forty", Worlds::full, (x, v) -> x.set(7, v, 1), 0, 39, Due.PLACE, Due.PLACE);
        for (int i : new int[] {MIN, -1, 0, 1, MAX}) {
            Edge.refused("set of an empty ROW at " + i, Worlds::busy, x -> x.set(3, i, 1), Due.PLACE);
        }
    }

    // "its lowest bits, as many as the LANE has: what it is then"
    private static void lanesCut() {
        int[] given = {0, 1, -1, 127, 128, 255, 256, -128, -129, -256, 32767, 32768, 65535, 65536, -32768, -32769,
            -65536, MAX, MIN, MAX - 1, MIN + 1};
        for (int v : given) {
            WinterWalk x = new WinterWalk();
            x.row(0, 0, 1);
            x.row(1, 1, 1);
            x.row(2, 2, 1);
            Due.due("byte " + v, x.set(0, 0, v), Math.floorMod(v + 128L, 256L) - 128);
            Due.due("short " + v, x.set(1, 0, v), Math.floorMod(v + 32768L, 65536L) - 32768);
            Due.due("int " + v, x.set(2, 0, v), v);
        }
        WinterWalk x = new WinterWalk();
        Due.lay(x, 0, 0, 256 + 1, 65536 + 2, -254, 3);
        Due.same("what a ROW of bytes keeps", Everything.itemsOf(x, 0), "122?");
        Due.lay(x, 1, 1, 256 + 1, 65536 + 2, -65536, 3);
        Due.same("what a ROW of shorts keeps", Everything.itemsOf(x, 1), "?20?");
        Due.lay(x, 2, 2, 256 + 1, 65536 + 2, 1, MIN);
        Due.same("what a ROW of ints keeps", Everything.itemsOf(x, 2), "??1?");
    }

    private static void setChangesOneItem() {
        for (int i = 0; i < 6; i++) {
            WinterWalk x = Worlds.busy();
            x.set(0, i, 99);
            StringBuilder due = new StringBuilder("012102");
            due.setCharAt(i, '?');
            Due.same("set(0, " + i + ", 99)", Everything.itemsOf(x, 0), due.toString());
            Due.same("the ROW behind it", Everything.itemsOf(x, 1), "120011");
        }
    }

    // "BAD: ROWS"
    private static void copyTakes() {
        Edge.World alike = () -> {
            WinterWalk x = Worlds.busy();
            for (int row = 0; row <= 7; row++) {
                x.row(row, 1, 6);
            }
            return x;
        };
        Edge.takes("copy, a", alike, (x, v) -> x.copy(v, 0, 2, 0, 6), 0, 7);
        Edge.takes("copy, b", alike, (x, v) -> x.copy(2, 0, v, 0, 6), 0, 7);
        Edge.takes("copy, both", alike, (x, v) -> x.copy(v, 0, v, 0, 6), 0, 7);
        Edge.refused("no ROW a, a missing b", Worlds::busy, x -> x.copy(8, 0, 7, 0, 1), Due.BAD);
        Edge.refused("no ROW b, a missing a", Worlds::busy, x -> x.copy(7, 0, -1, 0, 1), Due.BAD);
        Edge.refused("no ROW b, no such place", Worlds::busy, x -> x.copy(0, -1, 8, 0, -1), Due.BAD);
    }

    // "NULL"
    private static void copyOnMissing() {
        Edge.refused("a is missing", Worlds::busy, x -> x.copy(7, 0, 0, 0, 1), Due.NULL);
        Edge.refused("b is missing", Worlds::busy, x -> x.copy(0, 0, 7, 0, 1), Due.NULL);
        Edge.refused("both are missing", Worlds::busy, x -> x.copy(6, 0, 7, 0, 1), Due.NULL);
        Edge.refused("one is missing twice", Worlds::busy, x -> x.copy(7, 0, 7, 0, 0), Due.NULL);
        Edge.refused("none of a missing one", Worlds::busy, x -> x.copy(7, 0, 0, 0, 0), Due.NULL);
        Edge.refused("none to a missing one", Worlds::busy, x -> x.copy(3, 0, 7, 0, 0), Due.NULL);
    }

    // "STORE (ROWS of two LANES)"
    private static void copyBetweenLanes() {
        for (int a = 0; a <= 2; a++) {
            for (int b = 0; b <= 2; b++) {
                int from = a;
                int to = b;
                if (a != b) {
                    Edge.refused("from " + a + " to " + b, Worlds::busy, x -> x.copy(from, 0, to, 0, 1), Due.STORE);
                    Edge.refused("none, too", Worlds::busy, x -> x.copy(from, 0, to, 0, 0), Due.STORE);
                } else {
                    Due.due("within LANE " + a, Worlds.busy().copy(a, 0, b, 0, 6), 6);
                }
            }
        }
        Edge.refused("empty ROWS have LANES, too", Worlds::busy, x -> x.copy(3, 0, 1, 0, 0), Due.STORE);
    }

    /** Of LANE 0: ROW 0 with six ITEMS, ROW 3 with none, ROW 4 with four. */
    private static WinterWalk sixAndFour() {
        WinterWalk x = Worlds.busy();
        Due.lay(x, 4, 0, 2, 2, 1, 1);
        return x;
    }

    // "PLACE (i, j, n below 0, or beyond an end)"
    private static void copyAtPlaces() {
        long no = Due.PLACE;
        Edge.World w = RowEdgesTest::sixAndFour;
        Edge.takes("copy, i, one ITEM", w, (x, v) -> x.copy(0, v, 4, 0, 1), 0, 5, no, no);
        Edge.takes("copy, i, four ITEMS", w, (x, v) -> x.copy(0, v, 4, 0, 4), 0, 2, no, no);
        Edge.takes("copy, i, no ITEM", w, (x, v) -> x.copy(0, v, 4, 0, 0), 0, 6, no, no);
        Edge.takes("copy, j, one ITEM", w, (x, v) -> x.copy(0, 0, 4, v, 1), 0, 3, no, no);
        Edge.takes("copy, j, three ITEMS", w, (x, v) -> x.copy(0, 0, 4, v, 3), 0, 1, no, no);
        Edge.takes("copy, j, no ITEM", w, (x, v) -> x.copy(0, 0, 4, v, 0), 0, 4, no, no);
        Edge.takes("copy, n, b ends first", w, (x, v) -> x.copy(0, 0, 4, 0, v), 0, 4, no, no);
        Edge.takes("copy, n, a ends first", w, (x, v) -> x.copy(4, 1, 0, 1, v), 0, 3, no, no);
        Edge.takes("copy, n, at both ends", w, (x, v) -> x.copy(0, 5, 4, 3, v), 0, 1, no, no);
        for (int far : new int[] {MAX, MAX - 1, MIN, MIN + 1, -1}) {
            Edge.refused("i and n " + far, w, x -> x.copy(0, far, 4, 0, far), no);
            Edge.refused("j and n " + far, w, x -> x.copy(0, 0, 4, far, far), no);
            Edge.refused("i and j " + far, w, x -> x.copy(0, far, 4, far, 1), no);
            Edge.refused("all " + far, w, x -> x.copy(0, far, 4, far, far), no);
            Edge.refused("n " + far + ", i 1, j 1", w, x -> x.copy(0, 1, 4, 1, far), no);
        }
        Edge.refused("i + n wraps to 0", w, x -> x.copy(0, MIN, 4, 0, MIN), no);
        Edge.refused("i + n wraps to 1", w, x -> x.copy(0, MAX, 4, 0, MIN + 2), no);
        Edge.refused("i below 0, its end not", w, x -> x.copy(0, -1, 4, 0, 2), no);
        Edge.refused("j below 0, its end not", w, x -> x.copy(0, 0, 4, -1, 2), no);
        Edge.refused("n below 0, i and j not", w, x -> x.copy(0, 3, 4, 3, -1), no);
    }

    private static void copyOfNone() {
        Edge.World w = RowEdgesTest::sixAndFour;
        for (int i : new int[] {0, 3, 6}) {
            Due.due("none from " + i, sixAndFour().copy(0, i, 3, 0, 0), 0);
            Due.due("none to " + i, sixAndFour().copy(3, 0, 0, i, 0), 0);
        }
        Due.due("none of an empty ROW onto itself", sixAndFour().copy(3, 0, 3, 0, 0), 0);
        Edge.refused("one of an empty ROW", w, x -> x.copy(3, 0, 0, 0, 1), Due.PLACE);
        Edge.refused("one to an empty ROW", w, x -> x.copy(0, 0, 3, 0, 1), Due.PLACE);
        Edge.refused("none behind an empty ROW", w, x -> x.copy(3, 1, 0, 0, 0), Due.PLACE);
        Edge.refused("none ahead of an empty ROW", w, x -> x.copy(0, 0, 3, -1, 0), Due.PLACE);
        WinterWalk x = sixAndFour();
        x.copy(0, 0, 4, 0, 0);
        Due.same("no ITEM came", Everything.itemsOf(x, 4), "2211");
    }

    private static void copyOfAll() {
        WinterWalk x = new WinterWalk();
        x.row(0, 1, 40);
        x.row(7, 1, 40);
        x.set(0, 0, 1);
        x.set(0, 39, 2);
        Due.due("forty ITEMS", x.copy(0, 0, 7, 0, 40), 40);
        Due.due("forty-one", x.copy(0, 0, 7, 0, 41), Due.PLACE);
        Due.same("they came", Everything.itemsOf(x, 7), "1" + "0".repeat(38) + "2");
        Due.same("and are where they were", Everything.itemsOf(x, 0), "1" + "0".repeat(38) + "2");
        Due.due("the last alone", x.copy(0, 39, 7, 0, 1), 1);
        Due.due("to the last", x.copy(0, 0, 7, 39, 1), 1);
        Due.same("they came", Everything.itemsOf(x, 7), "2" + "0".repeat(38) + "1");
    }

    // "as they were ahead"
    private static void copyWhereItWas() {
        ontoItself(0, 1, 5, "001210");
        ontoItself(1, 0, 5, "121022");
        ontoItself(0, 3, 3, "012012");
        ontoItself(3, 0, 3, "102102");
        ontoItself(0, 5, 1, "012100");
        ontoItself(5, 0, 1, "212102");
        ontoItself(0, 0, 6, "012102");
        ontoItself(2, 4, 2, "012121");
        ontoItself(0, 2, 4, "010121");
        ontoItself(2, 0, 4, "210202");
    }

    private static void ontoItself(int i, int j, int n, String due) {
        WinterWalk x = Worlds.busy();
        String call = "copy(0, " + i + ", 0, " + j + ", " + n + ")";
        Due.due(call, x.copy(0, i, 0, j, n), n);
        Due.same(call, Everything.itemsOf(x, 0), due);
    }

    // "FINDINGS, of several the first in time", as promise 4 has them: NULL; STORE; PLACE
    private static void findingsOfCopyInOrder() {
        Edge.refused("NULL is ahead of PLACE", Worlds::busy, x -> x.copy(7, -1, 0, -1, -1), Due.NULL);
        Edge.refused("NULL of b, too", Worlds::busy, x -> x.copy(0, -1, 7, -1, -1), Due.NULL);
        Edge.refused("STORE is ahead of PLACE of a", Worlds::busy, x -> x.copy(0, 6, 1, 0, 1), Due.STORE);
        Edge.refused("STORE is ahead of PLACE of b", Worlds::busy, x -> x.copy(0, 0, 1, MAX, 1), Due.STORE);
        Edge.refused("STORE is ahead of PLACE of n", Worlds::busy, x -> x.copy(0, 0, 1, 0, MIN), Due.STORE);
    }

    // "BAD; NULL"
    private static void dropTakes() {
        Edge.takes("drop", Worlds::full, (x, v) -> x.drop(v), 0, 7);
        Edge.refused("drop of what is missing", Worlds::busy, x -> x.drop(4), Due.NULL);
    }

    // "A ROW is missing from now on: how many ITEMS it had"
    private static void dropOfNoneAndAll() {
        Edge.World dropped = () -> {
            WinterWalk x = Worlds.full();
            x.drop(7);
            return x;
        };
        Due.due("forty", Worlds.full().drop(7), 40);
        Due.due("none", Worlds.busy().drop(3), 0);
        Due.due("ROWS", dropped.anew().count(0), 7);
        Edge.refused("drop again", dropped, x -> x.drop(7), Due.NULL);
        Edge.refused("set then", dropped, x -> x.set(7, 0, 1), Due.NULL);
        Edge.refused("copy then", dropped, x -> x.copy(7, 0, 4, 0, 1), Due.NULL);
        Edge.refused("fits then", dropped, x -> x.fits(0, 7, 0, 1), Due.NULL);
        Edge.refused("slept then", dropped, x -> x.slept(0, 7, 0, 1, 0), Due.NULL);
        Due.due("row then", dropped.anew().row(7, 0, 40), 40);
    }
}
