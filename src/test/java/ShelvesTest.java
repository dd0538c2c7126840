/** Promises 40 to 46: shelves. */
public final class ShelvesTest {
    private static final int[] OUTSIDE_SHELVES = {-1, 8, Integer.MIN_VALUE, Integer.MAX_VALUE};

    public static void main(String[] args) {
        keep();
        row();
        put();
        element();
        copy();
        copyRefusals();
        costAndToss();
        Check.end("ShelvesTest");
    }

    private static void keep() {
        HillsLieDown x = new HillsLieDown();
        for (int d : OUTSIDE_SHELVES) {
            Check.dueAll("no such shelf", -1, x.keep(d, 0, 0, 0), x.keep(d, 1, 0, 0));
        }
        Check.dueAll("keep", -1, x.keep(0, -1, 0, 0), x.keep(0, 2, 0, 0), x.keep(0, 1, -1, 0), x.keep(0, 1, 8, 0),
            x.keep(0, 1, 0, -1), x.keep(0, 1, 0, 10));
        Check.due("nothing changed", x.cost(0), -11);
        for (int d = 0; d < 8; d++) {
            Check.due("keep", x.keep(d, 1, Check.YOUNG, d), 0);
        }
        for (int d = 0; d < 8; d++) {
            Check.due("each holds its own", x.cost(d), 3 + d);
        }
        Check.due("refused", x.keep(0, 1, 8, 0), -1);
        Check.due("nothing changed", x.cost(0), 3);
        Check.due("nothing", x.keep(0, 0, 99, -99), 0);
        Check.due("nothing is held", x.cost(0), -11);
        x.row(0, Check.BYTES, 1);
        Check.due("in place of a ROW", x.keep(0, 1, Check.WALKER, 1), 0);
        Check.due("a KIND is held", x.put(0, 0, 0), -12);
    }

    private static void row() {
        HillsLieDown x = new HillsLieDown();
        for (int d : OUTSIDE_SHELVES) {
            Check.dueAll("no such shelf", -1, x.row(d, 0, 0), x.row(d, 0, -1));
        }
        Check.dueAll("row", -1, x.row(0, -1, 0), x.row(0, 3, 0), x.row(0, 0, 101), x.row(0, 0, Integer.MAX_VALUE));
        Check.dueAll("below 0", -14, x.row(0, 0, -1), x.row(0, 2, Integer.MIN_VALUE));
        Check.due("-1 ahead of -14", x.row(0, 3, -1), -1);
        Check.due("nothing changed", x.put(0, 0, 0), -11);
        for (int sort = 0; sort < 3; sort++) {
            HillsLieDown y = new HillsLieDown();
            Check.due("row", y.row(0, sort, 100), 0);
            for (int i = 0; i < 100; i++) {
                Check.due("0 at first", Check.elementOrThrown(y, 0, i), 0);
                y.put(0, i, 7);
            }
            Check.due("no more than 100", y.put(0, 100, 0), -13);
            Check.due("refused", y.row(0, 0, -1), -14);
            Check.due("nothing changed", Check.elementOrThrown(y, 0, 99), 7);
        }
        Check.due("a row of none", x.row(0, 0, 0), 0);
        Check.due("no place", x.put(0, 0, 0), -13);
        x.keep(1, 1, Check.WALKER, 1);
        Check.due("in place of a KIND", x.row(1, 0, 1), 0);
        Check.due("a ROW is held", x.cost(1), -12);
    }

    private static void put() {
        HillsLieDown x = new HillsLieDown();
        for (int d : OUTSIDE_SHELVES) {
            Check.due("no such shelf", x.put(d, 0, 0), -1);
        }
        Check.due("nothing", x.put(0, 0, 0), -11);
        x.keep(0, 1, 0, 0);
        Check.due("no ROW", x.put(0, -1, 0), -12);
        int[] values = {0, 1, -1, 127, 128, 255, 256, -128, -129, 32767, 32768, 65535, 65536, 70000, -32769,
            Integer.MAX_VALUE, Integer.MIN_VALUE};
        for (int v : values) {
            long[] kept = {(byte) v, (short) v, v};
            for (int sort = 0; sort < 3; sort++) {
                x.row(0, sort, 3);
                Check.due("put", x.put(0, 2, v), 0);
                Check.due("put " + v + " in SORT " + sort, Check.elementOrThrown(x, 0, 2), kept[sort]);
                Check.due("the others stay", Check.elementOrThrown(x, 0, 1), 0);
            }
        }
        Check.dueAll("no such place", -13, x.put(0, -1, 0), x.put(0, 3, 0), x.put(0, Integer.MAX_VALUE, 0),
            x.put(0, Integer.MIN_VALUE, 0));
    }

    private static void element() {
        HillsLieDown x = new HillsLieDown();
        for (int d : OUTSIDE_SHELVES) {
            Check.due("no such shelf", Check.elementOrThrown(x, d, 0), Check.NO_SHELF);
        }
        Check.due("nothing", Check.elementOrThrown(x, 0, 0), Check.NO_ELEMENT);
        x.keep(0, 1, 0, 0);
        Check.due("no ROW", Check.elementOrThrown(x, 0, 0), Check.NO_ELEMENT);
        Check.rowOf(x, 0, Check.INTS, 5, -6, 7);
        Check.due("element", Check.elementOrThrown(x, 0, 0), 5);
        Check.due("element", Check.elementOrThrown(x, 0, 1), -6);
        Check.due("element", Check.elementOrThrown(x, 0, 2), 7);
        Check.dueAll("no such place", Check.NO_ELEMENT, Check.elementOrThrown(x, 0, 3),
            Check.elementOrThrown(x, 0, -1), Check.elementOrThrown(x, 0, Integer.MAX_VALUE));
    }

    private static void rowIs(HillsLieDown x, int d, int... values) {
        for (int i = 0; i < values.length; i++) {
            Check.due("element(" + d + ", " + i + ")", Check.elementOrThrown(x, d, i), values[i]);
        }
        Check.due("no more", Check.elementOrThrown(x, d, values.length), Check.NO_ELEMENT);
    }

    private static void copy() {
        HillsLieDown x = new HillsLieDown();
        Check.rowOf(x, 0, Check.BYTES, 1, 2, 3, 4, 5);
        x.row(1, Check.BYTES, 4);
        Check.due("copy", x.copy(0, 1, 1, 2, 2), 2);
        rowIs(x, 1, 0, 0, 2, 3);
        rowIs(x, 0, 1, 2, 3, 4, 5);
        Check.due("copy", x.copy(0, 0, 1, 0, 4), 4);
        rowIs(x, 1, 1, 2, 3, 4);
        Check.due("copy of none", x.copy(0, 5, 1, 4, 0), 0);
        Check.due("one behind the other", x.copy(0, 0, 0, 1, 4), 4);
        rowIs(x, 0, 1, 1, 2, 3, 4);
        Check.due("and back", x.copy(0, 1, 0, 0, 4), 4);
        rowIs(x, 0, 1, 2, 3, 4, 4);
    }

    private static void copyRefusals() {
        HillsLieDown x = new HillsLieDown();
        x.row(0, Check.BYTES, 5);
        x.row(1, Check.BYTES, 4);
        x.row(2, Check.SHORTS, 4);
        x.keep(3, 1, 0, 0);
        for (int d : OUTSIDE_SHELVES) {
            Check.dueAll("no such shelf", -1, x.copy(d, 0, 0, 0, 0), x.copy(0, 0, d, 0, 0), x.copy(d, 0, 4, 0, -1));
        }
        Check.dueAll("nothing", -11, x.copy(4, 0, 0, 0, 0), x.copy(0, 0, 4, 0, 0), x.copy(3, 0, 4, 0, 0),
            x.copy(4, 0, 3, 0, -1));
        Check.dueAll("no ROWS of one SORT", -12, x.copy(3, 0, 0, 0, 0), x.copy(0, 0, 3, 0, 0),
            x.copy(0, 0, 2, 0, 1), x.copy(2, 0, 0, 0, -1), x.copy(3, 0, 3, 0, 0));
        int big = Integer.MAX_VALUE;
        Check.dueAll("no such place", -13, x.copy(0, 0, 1, 0, -1), x.copy(0, 0, 1, 0, 5), x.copy(1, 0, 0, 0, 5),
            x.copy(0, 2, 1, 0, 4), x.copy(0, 0, 1, 1, 4), x.copy(0, -1, 1, 0, 1), x.copy(0, 0, 1, -1, 1),
            x.copy(0, 6, 1, 0, 0), x.copy(0, 0, 1, 5, 0), x.copy(0, big, 1, 0, 1), x.copy(0, 1, 1, big, big),
            x.copy(0, 0, 1, 0, Integer.MIN_VALUE), x.copy(0, big, 1, big, big));
    }

    private static void costAndToss() {
        HillsLieDown x = new HillsLieDown();
        for (int d : OUTSIDE_SHELVES) {
            Check.dueAll("no such shelf", -1, x.cost(d), x.toss(d));
        }
        Check.dueAll("nothing", -11, x.cost(0), x.toss(0));
        x.row(0, Check.BYTES, 1);
        Check.dueAll("a ROW", -12, x.cost(0), x.toss(0));
        for (int f = 0; f < 10; f++) {
            int[] costs = {3, 3 + f, 2, 0, 9, 6 + 2 * f, 2, 3 + f};
            int[] failures = {f, 100 + f, f, -15, -15, 206 + 2 * f, f, f};
            for (int k = 0; k < 8; k++) {
                x.keep(0, 1, k, f);
                Check.due("cost of KIND " + k + " FIGURE " + f, x.cost(0), costs[k]);
                Check.due("toss of KIND " + k + " FIGURE " + f, x.toss(0), f == 0 ? -15 : failures[k]);
                Check.due("he stays there", x.cost(0), costs[k]);
            }
        }
    }
}
