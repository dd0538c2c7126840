/** What the tests have in common: counting answers that are not due, and short ways to set a scene. */
final class Check {
    static final int WALKER = 0;
    static final int RIDER = 1;
    static final int HIDER = 2;
    static final int SLEEPER = 3;
    static final int DEAD = 4;
    static final int AUNT = 5;
    static final int TWIN = 6;
    static final int YOUNG = 7;

    static final int BYTES = 0;
    static final int SHORTS = 1;
    static final int INTS = 2;

    /** What rise() and longs tell for -1. */
    static final long TOLD_NO_SUCH = 1000000001L;

    private static int looked = 0;
    private static int wrong = 0;

    private Check() {
    }

    static void due(String call, long got, long want) {
        looked++;
        if (got != want) {
            wrong++;
            System.out.println(call + " answered " + got + ", due is " + want);
        }
    }

    static void dueAll(String call, long want, long... got) {
        for (int i = 0; i < got.length; i++) {
            due(call + " (" + i + ")", got[i], want);
        }
    }

    static void end(String test) {
        System.out.println(test + ": " + looked + " answers looked at, " + wrong + " not as due");
        if (wrong != 0 || looked == 0) {
            System.exit(1);
        }
    }

    static void rowOf(HillsLieDown x, int d, int sort, int... values) {
        due("row", x.row(d, sort, values.length), 0);
        for (int i = 0; i < values.length; i++) {
            due("put", x.put(d, i, values[i]), 0);
        }
    }

    /** Puts a text on SHELF 6 and has it come. */
    static int tell(HillsLieDown x, String text) {
        rowOf(x, 6, BYTES, text.chars().toArray());
        return x.country(6);
    }

    /** One comes, by SHELF 7: his number. */
    static int bring(HillsLieDown x, int kind, int figure, int age, int cell) {
        due("keep", x.keep(7, 1, kind, figure), 0);
        return x.comes(7, age, cell);
    }

    static void heights(HillsLieDown x, int... heights) {
        for (int cell = 0; cell < heights.length; cell++) {
            x.raises(cell, heights[cell]);
        }
    }

    /** The element, or -1 for IllegalArgumentException, -2 for IllegalStateException, each plus 1e12. */
    static long elementOrThrown(HillsLieDown x, int d, int i) {
        try {
            return x.element(d, i);
        } catch (IllegalArgumentException e) {
            return -1 + 1000000000000L;
        } catch (IllegalStateException e) {
            return -2 + 1000000000000L;
        }
    }

    static final long NO_SHELF = 999999999999L;
    static final long NO_ELEMENT = 999999999998L;
}
