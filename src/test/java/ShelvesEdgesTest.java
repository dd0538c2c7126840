/** Promises 40 to 46, edge by edge: each method stands for a sentence that names a boundary. */
public final class ShelvesEdgesTest {
    private static final int MIN = Integer.MIN_VALUE;
    private static final int MAX = Integer.MAX_VALUE;

    public static void main(String[] args) {
        keepRanges();
        keepNothing();
        keepInPlaceOf();
        rowRanges();
        rowBelow0();
        rowOf0AtFirst();
        rowRefusedChangesNothing();
        putRefusals();
        putPlaces();
        putLowestBits();
        elementThrows();
        elementPlaces();
        copyRefusals();
        copySorts();
        copyPlaces();
        copyOfNoneAndAll();
        copyWithinOneRow();
        copyRefusedChangesNothing();
        costs();
        costRefusals();
        failures();
        noFailures();
        tossRefusals();
        shelvesAreApart();
        Check.end("ShelvesEdgesTest");
    }

    /** "SHELVES 0 .. 7", "KIND k (0 .. 7) with a FIGURE (0 .. 9)": "-1". */
    private static void keepRanges() {
        HillsLieDown x = new HillsLieDown();
        for (int d = 0; d < 8; d++) {
            Check.due("SHELF " + d, x.keep(d, 1, d, 9 - d), 0);
        }
        Check.dueAll("no such SHELF", -1, x.keep(-1, 1, 0, 0), x.keep(8, 1, 0, 0), x.keep(MIN, 1, 0, 0), x.keep(MAX, 1, 0, 0));
        Check.dueAll("no such SHELF for nothing", -1, x.keep(-1, 0, 0, 0), x.keep(8, 0, 0, 0), x.keep(MIN, 0, 0, 0));
        Check.dueAll("no such what", -1, x.keep(0, -1, 0, 0), x.keep(0, 2, 0, 0), x.keep(0, MIN, 0, 0), x.keep(0, MAX, 0, 0));
        Check.dueAll("no such KIND", -1, x.keep(0, 1, -1, 0), x.keep(0, 1, 8, 0), x.keep(0, 1, MIN, 0), x.keep(0, 1, MAX, 0));
        Check.dueAll("no such FIGURE", -1, x.keep(0, 1, 0, -1), x.keep(0, 1, 0, 10), x.keep(0, 1, 0, MIN), x.keep(0, 1, 0, MAX));
        int[] costs = {3, 3 + 8, 2, 0, 9, 2 * (3 + 4), 2, 3 + 2};
        for (int d = 0; d < 8; d++) {
            Check.due("nothing changes on SHELF " + d, x.cost(d), costs[d]);
        }
        Check.due("the first KIND, the last FIGURE", x.keep(0, 1, 0, 9), 0);
        Check.due("FIGURE", x.toss(0), 9);
        Check.due("the last KIND, the first FIGURE", x.keep(7, 1, 7, 0), 0);
        Check.due("FIGURE", x.cost(7), 3);
    }

    /** "what = 0 nothing (the others do not matter)". */
    private static void keepNothing() {
        HillsLieDown x = new HillsLieDown();
        int[] others = {-1, 0, 8, 10, MIN, MAX};
        for (int other : others) {
            x.keep(3, 1, Check.WALKER, 1);
            Check.due("nothing", x.keep(3, 0, other, 0), 0);
            Check.due("nothing is held", x.cost(3), -11);
            x.row(3, Check.BYTES, 2);
            Check.due("nothing", x.keep(3, 0, 0, other), 0);
            Check.due("nothing is held", x.put(3, 0, 1), -11);
            Check.due("nothing in place of nothing", x.keep(3, 0, other, other), 0);
        }
    }

    /** A SHELF holds one thing: what it gets is in place of what it held. */
    private static void keepInPlaceOf() {
        HillsLieDown x = new HillsLieDown();
        x.row(0, Check.INTS, 5);
        x.put(0, 4, 7);
        x.keep(0, 1, Check.RIDER, 2);
        Check.due("no ROW any more", x.put(0, 4, 7), -12);
        Check.due("a RIDER", x.cost(0), 5);
        x.row(0, Check.INTS, 5);
        Check.due("no RIDER any more", x.cost(0), -12);
        Check.due("0 at first", Check.elementOrThrown(x, 0, 4), 0);
        x.row(0, Check.BYTES, 1);
        Check.due("another ROW", x.put(0, 1, 1), -13);
        x.keep(0, 1, Check.RIDER, 3);
        x.keep(0, 1, Check.YOUNG, 4);
        Check.due("another KIND", x.cost(0), 7);
    }

    /** "SORT (0 bytes, 1 shorts, 2 ints) and 0 .. 100 elements": "-1 (n above 100)". */
    private static void rowRanges() {
        HillsLieDown x = new HillsLieDown();
        for (int d = 0; d < 8; d++) {
            Check.due("SHELF " + d, x.row(d, d % 3, 1), 0);
        }
        Check.dueAll("no such SHELF", -1, x.row(-1, 0, 1), x.row(8, 0, 1), x.row(MIN, 0, 1), x.row(MAX, 0, 1));
        Check.dueAll("no such SORT", -1, x.row(0, -1, 1), x.row(0, 3, 1), x.row(0, MIN, 1), x.row(0, MAX, 1));
        Check.dueAll("n above 100", -1, x.row(0, 0, 101), x.row(0, 2, 101), x.row(0, 0, MAX), x.row(7, 1, 256));
        for (int sort = 0; sort < 3; sort++) {
            Check.due("the least", x.row(0, sort, 0), 0);
            Check.due("no place in it", x.put(0, 0, 1), -13);
            Check.due("the greatest", x.row(0, sort, 100), 0);
            Check.due("the last place", x.put(0, 99, 1), 0);
            Check.due("no more", x.put(0, 100, 1), -13);
        }
    }

    /** "-14 a size below 0", told behind -1. */
    private static void rowBelow0() {
        HillsLieDown x = new HillsLieDown();
        Check.dueAll("below 0", -14, x.row(0, 0, -1), x.row(7, 2, -1), x.row(0, 1, MIN), x.row(0, 0, -100));
        Check.dueAll("-1 ahead of -14", -1, x.row(-1, 0, -1), x.row(8, 0, -1), x.row(0, -1, -1), x.row(0, 3, -1), x.row(0, 3, MIN));
        Check.due("nothing changes", x.put(0, 0, 0), -11);
    }

    /** "0 at first". */
    private static void rowOf0AtFirst() {
        for (int sort = 0; sort < 3; sort++) {
            HillsLieDown x = new HillsLieDown();
            x.row(0, sort, 100);
            for (int i = 0; i < 100; i++) {
                Check.due("0 at first", Check.elementOrThrown(x, 0, i), 0);
                x.put(0, i, i + 1);
            }
            x.row(0, sort, 100);
            for (int i = 0; i < 100; i++) {
                Check.due("0 again", Check.elementOrThrown(x, 0, i), 0);
            }
        }
        HillsLieDown y = new HillsLieDown();
        Check.rowOf(y, 0, Check.INTS, 1, 2, 3);
        y.row(0, Check.INTS, 1);
        y.row(0, Check.BYTES, 3);
        Check.same("a shorter one between", Check.seenOnShelf(y, 0), "cost -12, toss -12, row 0 0 0");
    }

    private static void rowRefusedChangesNothing() {
        HillsLieDown x = new HillsLieDown();
        Check.rowOf(x, 0, Check.SHORTS, 1, 2, 3);
        x.keep(1, 1, Check.AUNT, 3);
        for (int d = 0; d < 3; d++) {
            String before = Check.seenOnShelf(x, d);
            x.row(d, 0, -1);
            x.row(d, 0, 101);
            x.row(d, 3, 5);
            x.row(d, -1, 5);
            Check.same("nothing changes", Check.seenOnShelf(x, d), before);
        }
    }

    /** "-1, -11, -12, -13": the first one as they are told. */
    private static void putRefusals() {
        HillsLieDown x = new HillsLieDown();
        for (int d : new int[] {-1, 8, MIN, MAX}) {
            Check.dueAll("no such SHELF", -1, x.put(d, 0, 0), x.put(d, -1, 0), x.put(d, MAX, MIN));
        }
        for (int d = 0; d < 8; d++) {
            Check.dueAll("nothing", -11, x.put(d, 0, 0), x.put(d, -1, 0), x.put(d, 100, 0));
            x.keep(d, 1, Check.WALKER, 1);
            Check.dueAll("no ROW", -12, x.put(d, 0, 0), x.put(d, -1, 0), x.put(d, 100, 0));
            x.row(d, d % 3, 2);
            Check.dueAll("no such place", -13, x.put(d, 2, 0), x.put(d, -1, 0), x.put(d, 100, 0));
            Check.due("a ROW", x.put(d, 0, 0), 0);
        }
    }

    /** "-13 a place that isn't there": the first and the last one are. */
    private static void putPlaces() {
        for (int sort = 0; sort < 3; sort++) {
            for (int n : new int[] {0, 1, 2, 99, 100}) {
                HillsLieDown x = new HillsLieDown();
                x.row(0, sort, n);
                Check.dueAll("not there", -13, x.put(0, -1, 5), x.put(0, n, 5), x.put(0, n + 1, 5), x.put(0, MIN, 5), x.put(0, MAX, 5));
                for (int i = 0; i < n; i++) {
                    Check.due("nothing changes", Check.elementOrThrown(x, 0, i), 0);
                }
                Check.due("the first", x.put(0, 0, 5), n > 0 ? 0 : -13);
                Check.due("the last", x.put(0, n - 1, 6), n > 0 ? 0 : -13);
                if (n > 0) {
                    Check.due("the first", Check.elementOrThrown(x, 0, 0), n > 1 ? 5 : 6);
                    Check.due("the last", Check.elementOrThrown(x, 0, n - 1), 6);
                }
            }
        }
    }

    /** "what is put in keeps its lowest bits": 8 of a byte, 16 of a short, 32 of an int. */
    private static void putLowestBits() {
        int[] values = {127, 128, 129, 255, 256, 257, -127, -128, -129, -255, -256, -257, 32767, 32768, 32769, 65535,
            65536, 65537, -32767, -32768, -32769, -65535, -65536, -65537, MAX, MIN, -1, 0};
        int[] bytes = {127, -128, -127, -1, 0, 1, -127, -128, 127, 1, 0, -1, -1, 0, 1, -1,
            0, 1, 1, 0, -1, 1, 0, -1, -1, 0, -1, 0};
        int[] shorts = {127, 128, 129, 255, 256, 257, -127, -128, -129, -255, -256, -257, 32767, -32768, -32767, -1,
            0, 1, -32767, -32768, 32767, 1, 0, -1, -1, 0, -1, 0};
        HillsLieDown x = new HillsLieDown();
        x.row(0, Check.BYTES, 1);
        x.row(1, Check.SHORTS, 1);
        x.row(2, Check.INTS, 1);
        for (int i = 0; i < values.length; i++) {
            for (int d = 0; d < 3; d++) {
                Check.due("put", x.put(d, 0, values[i]), 0);
            }
            Check.due(values[i] + " as a byte", Check.elementOrThrown(x, 0, 0), bytes[i]);
            Check.due(values[i] + " as a short", Check.elementOrThrown(x, 1, 0), shorts[i]);
            Check.due(values[i] + " as an int", Check.elementOrThrown(x, 2, 0), values[i]);
        }
    }

    /** "IllegalArgumentException: no such SHELF; IllegalStateException: no ROW, no such place". */
    private static void elementThrows() {
        HillsLieDown x = new HillsLieDown();
        for (int d : new int[] {-1, 8, MIN, MAX}) {
            Check.due("no such SHELF", Check.elementOrThrown(x, d, 0), Check.NO_SHELF);
            Check.due("no such SHELF, and no such place", Check.elementOrThrown(x, d, -1), Check.NO_SHELF);
        }
        for (int d = 0; d < 8; d++) {
            Check.due("nothing", Check.elementOrThrown(x, d, 0), Check.NO_ELEMENT);
            x.keep(d, 1, Check.WALKER, 1);
            Check.due("no ROW", Check.elementOrThrown(x, d, 0), Check.NO_ELEMENT);
            x.row(d, d % 3, 0);
            Check.due("no such place", Check.elementOrThrown(x, d, 0), Check.NO_ELEMENT);
            x.row(d, d % 3, 1);
            Check.due("a place", Check.elementOrThrown(x, d, 0), 0);
        }
    }

    /** "no such place": just below the first, just above the last. */
    private static void elementPlaces() {
        HillsLieDown x = new HillsLieDown();
        for (int n : new int[] {1, 2, 99, 100}) {
            x.row(0, Check.INTS, n);
            x.put(0, 0, MIN);
            x.put(0, n - 1, MAX);
            Check.due("the last", Check.elementOrThrown(x, 0, n - 1), MAX);
            Check.due("the first", Check.elementOrThrown(x, 0, 0), n == 1 ? MAX : MIN);
            for (int i : new int[] {-1, n, MIN, MAX, n + 100}) {
                Check.due("no such place", Check.elementOrThrown(x, 0, i), Check.NO_ELEMENT);
            }
        }
    }

    /** "-1, -11 (either), -12 (no ROWS of one SORT), -13 (n below 0, too)": the first one as they are told. */
    private static void copyRefusals() {
        HillsLieDown x = new HillsLieDown();
        x.row(0, Check.BYTES, 5);
        x.row(1, Check.BYTES, 4);
        x.keep(3, 1, Check.WALKER, 1);
        for (int d : new int[] {-1, 8, MIN, MAX}) {
            Check.dueAll("no such SHELF", -1, x.copy(d, 0, 0, 0, 1), x.copy(0, 0, d, 0, 1), x.copy(d, 0, d, 0, 1));
            Check.dueAll("-1 ahead of the others", -1, x.copy(d, 0, 4, 0, 1), x.copy(4, 0, d, 0, 1), x.copy(d, 0, 3, 0, 1),
                x.copy(3, 0, d, 0, 1), x.copy(d, 0, 0, 0, -1), x.copy(0, 0, d, 9, 1));
        }
        Check.dueAll("nothing on either", -11, x.copy(4, 0, 0, 0, 1), x.copy(0, 0, 4, 0, 1), x.copy(4, 0, 4, 0, 1), x.copy(4, 0, 5, 0, 1));
        Check.dueAll("-11 ahead of the others", -11, x.copy(4, 0, 3, 0, 1), x.copy(3, 0, 4, 0, 1), x.copy(4, 0, 0, 0, -1), x.copy(0, 9, 4, 0, 1));
        Check.dueAll("no ROWS", -12, x.copy(3, 0, 0, 0, 1), x.copy(0, 0, 3, 0, 1), x.copy(3, 0, 3, 0, 1));
        Check.dueAll("-12 ahead of -13", -12, x.copy(3, 0, 0, 0, -1), x.copy(0, 9, 3, 0, 1), x.copy(0, -1, 3, -1, -1));
        Check.dueAll("n below 0", -13, x.copy(0, 0, 1, 0, -1), x.copy(0, 0, 1, 0, MIN), x.copy(0, 1, 1, 1, -1), x.copy(0, 5, 1, 4, -5));
    }

    /** "-12 (no ROWS of one SORT)". */
    private static void copySorts() {
        HillsLieDown x = new HillsLieDown();
        for (int d = 0; d < 6; d++) {
            x.row(d, d % 3, 3);
        }
        for (int d = 0; d < 6; d++) {
            for (int e = 0; e < 6; e++) {
                boolean isOneSort = d % 3 == e % 3;
                Check.due("SORTS " + d % 3 + " and " + e % 3, x.copy(d, 0, e, 0, 3), isOneSort ? 3 : -12);
                Check.due("SORTS " + d % 3 + " and " + e % 3, x.copy(d, 0, e, 0, 4), isOneSort ? -13 : -12);
            }
        }
        // The least and the greatest of each SORT come over as they are.
        int[] least = {-128, -32768, MIN};
        for (int d = 0; d < 3; d++) {
            x.put(d, 0, least[d]);
            x.put(d, 2, least[d] - 1);
            Check.due("copy", x.copy(d, 0, d + 3, 0, 3), 3);
            Check.due("the least", Check.elementOrThrown(x, d + 3, 0), least[d]);
            Check.due("the greatest", Check.elementOrThrown(x, d + 3, 2), -1L - least[d]);
        }
    }

    /** "-13 a place that isn't there (a number or a size that isn't as told, too)". */
    private static void copyPlaces() {
        HillsLieDown x = new HillsLieDown();
        x.row(0, Check.INTS, 5);
        x.row(1, Check.INTS, 4);
        for (int i = -2; i < 8; i++) {
            for (int n = 1; n < 7; n++) {
                Check.due("from " + i + " on, " + n, x.copy(0, i, 1, 0, n), i >= 0 && i + n <= 5 && n <= 4 ? n : -13);
                Check.due("to " + i + " on, " + n, x.copy(0, 0, 1, i, n), i >= 0 && i + n <= 4 && n <= 5 ? n : -13);
            }
        }
        Check.dueAll("that add up to below 0", -13, x.copy(0, MAX, 1, 0, 1), x.copy(0, 0, 1, MAX, 1), x.copy(0, 1, 1, 1, MAX),
            x.copy(0, MAX, 1, MAX, MAX), x.copy(0, MIN, 1, 0, MIN), x.copy(0, MIN, 1, MIN, MAX), x.copy(0, MAX, 1, 0, 2));
    }

    /** "n elements .. : n", from 0 to 100. */
    private static void copyOfNoneAndAll() {
        HillsLieDown x = new HillsLieDown();
        x.row(0, Check.SHORTS, 100);
        x.row(7, Check.SHORTS, 100);
        x.put(0, 0, 5);
        x.put(0, 99, 6);
        Check.due("none", x.copy(0, 0, 7, 0, 0), 0);
        Check.due("nothing came", Check.elementOrThrown(x, 7, 0), 0);
        Check.due("one too many", x.copy(0, 0, 7, 0, 101), -13);
        Check.due("all but the first", x.copy(0, 1, 7, 0, 99), 99);
        Check.due("the first", Check.elementOrThrown(x, 7, 0), 0);
        Check.due("the last", Check.elementOrThrown(x, 7, 98), 6);
        Check.due("the one behind", Check.elementOrThrown(x, 7, 99), 0);
        Check.due("all", x.copy(0, 0, 7, 0, 100), 100);
        Check.due("the first", Check.elementOrThrown(x, 7, 0), 5);
        Check.due("the last", Check.elementOrThrown(x, 7, 99), 6);
        Check.due("of empty ones none", x.row(1, Check.BYTES, 0) + x.row(2, Check.BYTES, 0) + x.copy(1, 0, 2, 0, 0), 0);
        Check.due("of empty ones one", x.copy(1, 0, 2, 0, 1), -13);
    }

    /** Within one ROW what was there ahead of the call comes, whichever way it goes. */
    private static void copyWithinOneRow() {
        HillsLieDown x = new HillsLieDown();
        Check.rowOf(x, 0, Check.BYTES, 1, 2, 3, 4, 5);
        Check.due("to behind", x.copy(0, 0, 0, 1, 4), 4);
        Check.same("as it was ahead of the call", Check.seenOnShelf(x, 0), "cost -12, toss -12, row 1 1 2 3 4");
        Check.rowOf(x, 0, Check.BYTES, 1, 2, 3, 4, 5);
        Check.due("to ahead", x.copy(0, 1, 0, 0, 4), 4);
        Check.same("as it was ahead of the call", Check.seenOnShelf(x, 0), "cost -12, toss -12, row 2 3 4 5 5");
        Check.due("onto itself", x.copy(0, 0, 0, 0, 5), 5);
        Check.same("all the same", Check.seenOnShelf(x, 0), "cost -12, toss -12, row 2 3 4 5 5");
    }

    private static void copyRefusedChangesNothing() {
        HillsLieDown x = new HillsLieDown();
        Check.rowOf(x, 0, Check.BYTES, 1, 2, 3, 4, 5);
        Check.rowOf(x, 1, Check.BYTES, 6, 7, 8);
        Check.rowOf(x, 2, Check.INTS, 9, 10, 11);
        x.copy(0, 0, 1, 0, 4);
        x.copy(0, 3, 1, 0, 3);
        x.copy(0, 0, 1, 1, 3);
        x.copy(0, 0, 1, 0, -1);
        x.copy(0, -1, 1, 0, 2);
        x.copy(0, 0, 1, -1, 2);
        x.copy(0, 0, 2, 0, 2);
        x.copy(2, 0, 1, 0, 2);
        x.copy(0, 0, 3, 0, 2);
        Check.same("nothing changes", Check.seenOnShelf(x, 0), "cost -12, toss -12, row 1 2 3 4 5");
        Check.same("nothing changes", Check.seenOnShelf(x, 1), "cost -12, toss -12, row 6 7 8");
        Check.same("nothing changes", Check.seenOnShelf(x, 2), "cost -12, toss -12, row 9 10 11");
        Check.same("nothing changes", Check.seenOnShelf(x, 3), "cost -11, toss -11, row");
    }

    /** "COST", from FIGURE 0 to 9. */
    private static void costs() {
        HillsLieDown x = new HillsLieDown();
        for (int figure = 0; figure < 10; figure++) {
            int[] due = {3, 3 + figure, 2, 0, 9, 6 + 2 * figure, 2, 3 + figure};
            for (int kind = 0; kind < 8; kind++) {
                x.keep(kind, 1, kind, figure);
                Check.due("KIND " + kind + " FIGURE " + figure, x.cost(kind), due[kind]);
            }
        }
    }

    /** "-1, -11, -12 (a ROW)". */
    private static void costRefusals() {
        HillsLieDown x = new HillsLieDown();
        Check.dueAll("no such SHELF", -1, x.cost(-1), x.cost(8), x.cost(MIN), x.cost(MAX));
        for (int d = 0; d < 8; d++) {
            Check.due("nothing", x.cost(d), -11);
            x.row(d, d % 3, d);
            Check.due("a ROW", x.cost(d), -12);
        }
    }

    /** "its FIGURE; of RIDERS 100 more (of AUNTS, too); of AUNTS 200 plus their COST, in place of all that". */
    private static void failures() {
        HillsLieDown x = new HillsLieDown();
        for (int figure = 1; figure < 10; figure++) {
            int[] due = {figure, 100 + figure, figure, -15, -15, 206 + 2 * figure, figure, figure};
            for (int kind = 0; kind < 8; kind++) {
                x.keep(kind, 1, kind, figure);
                Check.due("KIND " + kind + " FIGURE " + figure, x.toss(kind), due[kind]);
                Check.due("a second time", x.toss(kind), due[kind]);
            }
        }
    }

    /** "-15: SLEEPERS, DEAD ones, and any with FIGURE 0, have none". */
    private static void noFailures() {
        HillsLieDown x = new HillsLieDown();
        for (int kind = 0; kind < 8; kind++) {
            x.keep(0, 1, kind, 0);
            Check.due("FIGURE 0 of KIND " + kind, x.toss(0), -15);
            x.keep(0, 1, kind, 1);
            boolean sleeps = kind == Check.SLEEPER || kind == Check.DEAD;
            Check.due("FIGURE 1 of KIND " + kind, x.toss(0) == -15 ? 1 : 0, sleeps ? 1 : 0);
        }
        for (int figure = 0; figure < 10; figure++) {
            x.keep(0, 1, Check.SLEEPER, figure);
            Check.due("a SLEEPER", x.toss(0), -15);
            x.keep(0, 1, Check.DEAD, figure);
            Check.due("a DEAD one", x.toss(0), -15);
        }
    }

    /** "-1, -11, -12 (a ROW); -15". */
    private static void tossRefusals() {
        HillsLieDown x = new HillsLieDown();
        Check.dueAll("no such SHELF", -1, x.toss(-1), x.toss(8), x.toss(MIN), x.toss(MAX));
        for (int d = 0; d < 8; d++) {
            Check.due("nothing", x.toss(d), -11);
            x.row(d, d % 3, d);
            Check.due("a ROW", x.toss(d), -12);
            x.keep(d, 1, Check.WALKER, d);
            Check.due("FIGURE", x.toss(d), d == 0 ? -15 : d);
            Check.due("he stays there", x.cost(d), 3);
        }
    }

    /** "SHELVES 0 .. 7 each hold": what is done with one leaves the others. */
    private static void shelvesAreApart() {
        HillsLieDown x = new HillsLieDown();
        for (int d = 0; d < 8; d++) {
            Check.rowOf(x, d, Check.INTS, 10 * d, 10 * d + 1);
        }
        x.keep(3, 0, 0, 0);
        x.keep(4, 1, Check.WALKER, 2);
        x.row(5, Check.BYTES, 1);
        x.put(0, 1, 99);
        String[] due = {"cost -12, toss -12, row 0 99", "cost -12, toss -12, row 10 11", "cost -12, toss -12, row 20 21",
            "cost -11, toss -11, row", "cost 3, toss 2, row", "cost -12, toss -12, row 0", "cost -12, toss -12, row 60 61",
            "cost -12, toss -12, row 70 71"};
        for (int d = 0; d < 8; d++) {
            Check.same("SHELF " + d, Check.seenOnShelf(x, d), due[d]);
        }
    }
}
