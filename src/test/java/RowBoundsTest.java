import java.util.Arrays;

/** ROWS, promises 2 to 5: for each sentence that names a bound, what is due below, at and beyond it. */
public final class RowBoundsTest extends Due {
    public static void main(String[] args) {
        placesOfRows();
        missingAtFirst();
        lanes();
        howManyItems();
        fewerThanNone();
        zeroAtFirst();
        inPlaceOfWhatIsThere();
        rowRefusals();
        lowestBits();
        whatItIsThen();
        placesToSet();
        setRefusals();
        asTheyWereAhead();
        copyPlaces();
        copyFarPlaces();
        copyNone();
        copyStores();
        copyRefusals();
        dropped();
        dropRefusals();
        end();
    }

    /** Row 0 of bytes 1 2 3 4, row 1 of bytes 4 3, row 2 of shorts, row 3 of ints, row 4 without items. */
    private static StoneWed rows() {
        StoneWed x = new StoneWed();
        tellItems(x);
        x.row(0, 0, 4);
        x.row(1, 0, 2);
        x.row(2, 1, 4);
        x.row(3, 2, 4);
        x.row(4, 0, 0);
        for (int i = 0; i < 4; i++) {
            x.set(0, i, 1 + i);
        }
        x.set(1, 0, 4);
        x.set(1, 1, 3);
        return x;
    }

    private static void placesOfRows() {
        says("1: ROWS 0 .. 7");
        StoneWed x = new StoneWed();
        each("row", row -> x.row(row, 0, 3), 3, 0, 1, 2, 3, 4, 5, 6, 7);
        due("all eight", x.count(0), 8);
        each("row", row -> x.row(row, 0, 3), BAD, -1, 8, LEAST, GREATEST);
        each("set", row -> x.set(row, 2, 7), 7, 0, 7);
        each("set", row -> x.set(row, 2, 7), BAD, -1, 8, LEAST, GREATEST);
        each("copy from", row -> x.copy(row, 0, 0, 0, 3), 3, 0, 7);
        each("copy from", row -> x.copy(row, 0, 0, 0, 3), BAD, -1, 8, LEAST, GREATEST);
        each("copy to", row -> x.copy(0, 0, row, 0, 3), 3, 0, 7);
        each("copy to", row -> x.copy(0, 0, row, 0, 3), BAD, -1, 8, LEAST, GREATEST);
        each("drop", x::drop, BAD, -1, 8, LEAST, GREATEST);
        each("drop", x::drop, 3, 0, 7);
    }

    private static void missingAtFirst() {
        says("1: ROWS are missing (at first)");
        StoneWed x = new StoneWed();
        due("rows", x.count(0), 0);
        for (int row = 0; row < 8; row++) {
            due("set " + row, x.set(row, 0, 1), NULL);
            due("copy " + row, x.copy(row, 0, row, 0, 0), NULL);
            due("drop " + row, x.drop(row), NULL);
        }
        tellItems(x);
        each("fits", row -> x.fits(0, row, 0, 1, 0), NULL, 0, 7);
    }

    private static void lanes() {
        says("1: a LANE (0 bytes, 1 shorts, 2 ints)");
        StoneWed x = new StoneWed();
        int[] lowest = {112, 4464, 70000};
        for (int lane = 0; lane < 3; lane++) {
            due("lane " + lane, x.row(0, lane, 1), 1);
            due("its bits", x.set(0, 0, 70000), lowest[lane]);
        }
        each("lane", lane -> x.row(0, lane, 1), BAD, -1, 3, LEAST, GREATEST);
        due("the lane stays", x.set(0, 0, 70000), 70000);
    }

    private static void howManyItems() {
        says("1: 0 to 40 ITEMS; 2: BAD: n above 40");
        StoneWed x = new StoneWed();
        for (int lane = 0; lane < 3; lane++) {
            int l = lane;
            each("n", n -> x.row(5, l, n), BAD, 41, 42, GREATEST);
            each("n", n -> x.row(5, l, n), l, l);
            due("all forty", x.row(5, lane, 40), 40);
            due("the last one", x.set(5, 39, 1), 1);
            due("one behind it", x.set(5, 40, 1), PLACE);
        }
        due("none", x.row(5, 0, 0), 0);
        due("one without items is not missing", x.count(0), 1);
        due("but has no place", x.set(5, 0, 1), PLACE);
    }

    private static void fewerThanNone() {
        says("2: SIZE (fewer than none)");
        StoneWed x = new StoneWed();
        each("n", n -> x.row(0, 0, n), SIZE, -1, -2, -40, -41, LEAST);
        due("what is found lays none", x.count(0), 0);
        due("number", x.status(), 4);
        due("none is not fewer", x.row(0, 0, 0), 0);
        due("number", x.status(), 0);
    }

    private static void zeroAtFirst() {
        says("1: ITEMS, 0 at first");
        StoneWed x = new StoneWed();
        tellItems(x);
        for (int lane = 0; lane < 3; lane++) {
            x.row(lane, lane, 40);
            dueItems("lane " + lane, x, lane, new int[40]);
        }
    }

    private static void inPlaceOfWhatIsThere() {
        says("2: in place of what is there");
        StoneWed x = rows();
        due("the same once more", x.row(0, 0, 4), 4);
        dueItems("items are 0 again", x, 0, 0, 0, 0, 0);
        x.set(0, 3, 4);
        due("fewer", x.row(0, 0, 2), 2);
        dueItems("fewer", x, 0, 0, 0);
        due("more", x.row(0, 2, 4), 4);
        dueItems("none of the old ones", x, 0, 0, 0, 0, 0);
        due("another lane", x.set(0, 0, 70000), 70000);
        due("rows", x.count(0), 5);
        x.set(0, 1, 4);
        x.drop(0);
        x.row(0, 0, 2);
        dueItems("a row that was dropped", x, 0, 0, 0);
    }

    private static void rowRefusals() {
        says("2: BAD: ROW, LANE, n above 40; SIZE: the first that fits");
        StoneWed x = rows();
        each("ROW, and n fewer than none", row -> x.row(row, 0, -1), BAD, -1, 8);
        each("LANE, and n fewer than none", lane -> x.row(0, lane, -1), BAD, -1, 3);
        due("ROW, LANE and n", x.row(8, 3, 41), BAD);
        due("number", x.status(), 0);
        due("n fewer than none alone", x.row(0, 0, -1), SIZE);
        due("number", x.status(), 4);
        due("n above 40 behind it", x.row(0, 0, 41), BAD);
        due("BAD leaves the number", x.status(), 4);
        dueItems("nothing changes", x, 0, 1, 2, 3, 4);
    }

    private static void lowestBits() {
        says("3: its lowest bits, as many as the LANE has (read with their sign)");
        StoneWed x = rows();
        int[] v = {0, 1, -1, 127, 128, 255, 256, -128, -129, -256, 32767, 32768, 65535, 65536,
            -32768, -32769, -65536, GREATEST, LEAST};
        int[] bytes = {0, 1, -1, 127, -128, -1, 0, -128, 127, 0, -1, 0, -1, 0, 0, -1, 0, -1, 0};
        int[] shorts = {0, 1, -1, 127, 128, 255, 256, -128, -129, -256, 32767, -32768, -1, 0,
            -32768, 32767, 0, -1, 0};
        for (int k = 0; k < v.length; k++) {
            due("a byte of " + v[k], x.set(0, 0, v[k]), bytes[k]);
            due("a short of " + v[k], x.set(2, 0, v[k]), shorts[k]);
            due("an int of " + v[k], x.set(3, 0, v[k]), v[k]);
        }
    }

    private static void whatItIsThen() {
        says("3: ITEM i becomes v, its lowest bits: what it is then");
        StoneWed x = rows();
        due("a byte", x.set(0, 1, 260), 4);
        dueItems("it is cut, the others stay", x, 0, 1, 4, 3, 4);
        due("a byte", x.set(0, 1, 128 + 1), -127);
        dueItems("it is no 1", x, 0, 1, -1, 3, 4);
        due("a short", x.set(2, 3, 65536 + 2), 2);
        dueItems("it is cut", x, 2, 0, 0, 0, 2);
        due("an int", x.set(3, 0, 260), 260);
        dueItems("it is not cut", x, 3, -1, 0, 0, 0);
    }

    private static void placesToSet() {
        says("3: PLACE (no such place of a ROW)");
        StoneWed x = rows();
        each("the ends", i -> x.set(0, i, 1), 1, 0, 3);
        each("beyond", i -> x.set(0, i, 2), PLACE, -1, 4, 39, 40, LEAST, GREATEST);
        each("of none", i -> x.set(4, i, 2), PLACE, -1, 0, 1);
        dueItems("nothing else is set", x, 0, 1, 2, 3, 1);
    }

    private static void setRefusals() {
        says("3: BAD: ROW; NULL; PLACE: the first that fits");
        StoneWed x = rows();
        each("ROW, and no such place", row -> x.set(row, -1, 1), BAD, -1, 8);
        each("missing, and no such place", i -> x.set(7, i, 1), NULL, -1, 0, 40, LEAST, GREATEST);
        due("number", x.status(), 1);
        due("PLACE", x.set(0, 4, 1), PLACE);
        due("number", x.status(), 2);
    }

    private static void asTheyWereAhead() {
        says("4: n ITEMS of a from i on come to b from j on, as they were ahead");
        StoneWed x = rows();
        due("some", x.copy(0, 2, 1, 0, 2), 2);
        dueItems("they came", x, 1, 3, 4);
        dueItems("those of a stay", x, 0, 1, 2, 3, 4);
        due("one", x.copy(0, 0, 1, 1, 1), 1);
        dueItems("one came", x, 1, 3, 1);
        due("to the right, within a row", x.copy(0, 0, 0, 1, 3), 3);
        dueItems("to the right", x, 0, 1, 1, 2, 3);
        StoneWed y = rows();
        due("to the left, within a row", y.copy(0, 1, 0, 0, 3), 3);
        dueItems("to the left", y, 0, 2, 3, 4, 4);
        due("where they are", y.copy(0, 0, 0, 0, 4), 4);
        dueItems("where they are", y, 0, 2, 3, 4, 4);
    }

    private static void copyPlaces() {
        says("4: PLACE (i, j, n below 0, or beyond an end)");
        StoneWed x = rows();
        int[] full = new int[40];
        Arrays.fill(full, 4);
        x.row(5, 1, 40);
        x.row(6, 1, 40);
        for (int i = 0; i < 40; i++) {
            x.set(5, i, 4);
        }
        due("all forty", x.copy(5, 0, 6, 0, 40), 40);
        dueItems("all forty", x, 6, full);
        due("forty-one", x.copy(5, 0, 6, 0, 41), PLACE);
        due("to the end of b", x.copy(0, 0, 1, 0, 2), 2);
        due("one beyond the end of b", x.copy(0, 0, 1, 0, 3), PLACE);
        due("one beyond the end of b, from 1", x.copy(0, 0, 1, 1, 2), PLACE);
        due("to the end of a", x.copy(1, 0, 0, 0, 2), 2);
        due("one beyond the end of a", x.copy(1, 0, 0, 0, 3), PLACE);
        due("one beyond the end of a, from 1", x.copy(1, 1, 0, 0, 2), PLACE);
        due("the last one of a", x.copy(0, 3, 1, 0, 1), 1);
        due("one behind it", x.copy(0, 4, 1, 0, 1), PLACE);
        due("the last one of b", x.copy(0, 0, 1, 1, 1), 1);
        due("one behind it", x.copy(0, 0, 1, 2, 1), PLACE);
        due("i -1", x.copy(0, -1, 1, 0, 1), PLACE);
        due("j -1", x.copy(0, 0, 1, -1, 1), PLACE);
        due("n -1", x.copy(0, 1, 1, 1, -1), PLACE);
        due("number", x.status(), 2);
    }

    private static void copyFarPlaces() {
        says("4: PLACE (far beyond, so that i and n together wrap around)");
        StoneWed x = rows();
        each("i", i -> x.copy(0, i, 1, 0, 1), PLACE, LEAST, GREATEST);
        each("i, of none", i -> x.copy(0, i, 1, 0, 0), PLACE, LEAST, GREATEST);
        each("j", j -> x.copy(0, 0, 1, j, 1), PLACE, LEAST, GREATEST);
        each("j, of none", j -> x.copy(0, 0, 1, j, 0), PLACE, LEAST, GREATEST);
        each("n", n -> x.copy(0, 0, 1, 0, n), PLACE, LEAST, GREATEST);
        each("n, from 1", n -> x.copy(0, 1, 1, 1, n), PLACE, LEAST, GREATEST);
        due("i and n", x.copy(0, GREATEST, 1, 0, GREATEST), PLACE);
        due("j and n", x.copy(0, 0, 1, GREATEST, GREATEST), PLACE);
        due("i so far below as n is above", x.copy(0, -3, 1, 0, 5), PLACE);
        due("j so far below as n is above", x.copy(0, 0, 1, -3, 5), PLACE);
        due("i beyond, n as far below", x.copy(0, 5, 1, 1, -3), PLACE);
        dueItems("nothing changes", x, 0, 1, 2, 3, 4);
        dueItems("nothing changes", x, 1, 4, 3);
    }

    private static void copyNone() {
        says("4: n ITEMS: none");
        StoneWed x = rows();
        due("at the ends", x.copy(0, 4, 1, 2, 0), 0);
        due("at the beginnings", x.copy(0, 0, 1, 0, 0), 0);
        due("of a row without items", x.copy(4, 0, 4, 0, 0), 0);
        due("one of a row without items", x.copy(4, 0, 0, 0, 1), PLACE);
        due("one to a row without items", x.copy(0, 0, 4, 0, 1), PLACE);
        due("behind the end of a", x.copy(0, 5, 1, 0, 0), PLACE);
        due("behind the end of b", x.copy(0, 0, 1, 3, 0), PLACE);
        due("ahead of a", x.copy(0, -1, 1, 0, 0), PLACE);
        due("ahead of b", x.copy(0, 0, 1, -1, 0), PLACE);
        dueItems("nothing changes", x, 0, 1, 2, 3, 4);
        dueItems("nothing changes", x, 1, 4, 3);
    }

    private static void copyStores() {
        says("4: STORE (ROWS of two LANES)");
        StoneWed x = rows();
        int[] ofLane = {0, 2, 3};
        for (int a : ofLane) {
            for (int b : ofLane) {
                due("from " + a + " to " + b, x.copy(a, 0, b, 0, 1), a == b ? 1 : STORE);
                due("number", x.status(), a == b ? 0 : 5);
                due("none, from " + a + " to " + b, x.copy(a, 0, b, 0, 0), a == b ? 0 : STORE);
            }
        }
        dueItems("nothing came", x, 2, 0, 0, 0, 0);
    }

    private static void copyRefusals() {
        says("4: BAD: ROWS; NULL; STORE; PLACE: the first that fits");
        StoneWed x = rows();
        due("no such a, b missing", x.copy(8, 0, 7, 0, 1), BAD);
        due("a missing, no such b", x.copy(7, 0, 8, 0, 1), BAD);
        due("a missing", x.copy(7, 0, 0, 0, 1), NULL);
        due("b missing", x.copy(0, 0, 7, 0, 1), NULL);
        due("both missing", x.copy(7, 0, 6, 0, 1), NULL);
        due("a missing, no such places", x.copy(7, -1, 0, -1, -1), NULL);
        due("b missing, no such places", x.copy(0, -1, 7, -1, -1), NULL);
        due("number", x.status(), 1);
        due("two LANES, i -1", x.copy(0, -1, 2, 0, 1), STORE);
        due("two LANES, j -1", x.copy(0, 0, 2, -1, 1), STORE);
        due("two LANES, n -1", x.copy(0, 0, 2, 0, -1), STORE);
        due("two LANES, beyond the ends", x.copy(0, 0, 2, 0, 41), STORE);
        due("number", x.status(), 5);
    }

    private static void dropped() {
        says("5: A ROW is missing from now on: how many ITEMS it had");
        StoneWed x = rows();
        x.row(5, 2, 40);
        due("none", x.drop(4), 0);
        due("two", x.drop(1), 2);
        due("four", x.drop(0), 4);
        due("forty", x.drop(5), 40);
        due("rows", x.count(0), 2);
        due("again", x.drop(0), NULL);
        due("set", x.set(0, 0, 1), NULL);
        due("copy from", x.copy(0, 0, 2, 0, 0), NULL);
        due("copy to", x.copy(2, 0, 0, 0, 0), NULL);
        due("fits", x.fits(0, 0, 0, 1, 0), NULL);
        due("a new one", x.row(0, 0, 1), 1);
        due("rows", x.count(0), 3);
    }

    private static void dropRefusals() {
        says("5: BAD; NULL");
        StoneWed x = rows();
        x.as(0, 2);
        due("no such ROW", x.drop(8), BAD);
        due("BAD leaves the number", x.status(), 3);
        due("missing", x.drop(7), NULL);
        due("number", x.status(), 1);
        due("one that is there", x.drop(2), 4);
        due("number", x.status(), 0);
    }
}
