/** What the tests have in common: counting answers that are not due, and short ways to set a scene. */
final class Check {
    static final int WALKER = 0;
    static final int RIDER = 1;
    static final int HIDER = 2;
    static final int SLEEPER = 3;
    static final int DEAD = 4;
    static final int AUNT = 5;
    static final int TWIN = 6;
    static final int YOUNG = 7;

    static final int BYTES = 0;
    static final int SHORTS = 1;
    static final int INTS = 2;

    /** What rise() and longs tell for -1. */
    static final long TOLD_NO_SUCH = 1000000001L;

    private static int looked = 0;
    private static int wrong = 0;

    private Check() {
    }

    static void due(String call, long got, long want) {
        looked++;
        if (got != want) {
            wrong++;
            System.out.println(call + " answered " + got + ", due is " + want);
        }
    }

    static void dueAll(String call, long want, long... got) {
        for (int i = 0; i < got.length; i++) {
            due(call + " (" + i + ")", got[i], want);
        }
    }

    static void end(String test) {
        System.out.println(test + ": " + looked + " answers looked at, " + wrong + " not as due");
        if (wrong != 0 || looked == 0) {
            System.exit(1);
        }
    }

    static void rowOf(HillsLieDown x, int d, int sort, int... values) {
        due("row", x.row(d, sort, values.length), 0);
        for (int i = 0; i < values.length; i++) {
            due("put", x.put(d, i, values[i]), 0);
        }
    }

    /** Puts a text on SHELF 6 and has it come. */
    static int tell(HillsLieDown x, String text) {
        rowOf(x, 6, BYTES, text.chars().toArray());
        return x.country(6);
    }

    /** One comes, by SHELF 7: his number. */
    static int bring(HillsLieDown x, int kind, int figure, int age, int cell) {
        due("keep", x.keep(7, 1, kind, figure), 0);
        return x.comes(7, age, cell);
    }

    static void heights(HillsLieDown x, int... heights) {
        for (int cell = 0; cell < heights.length; cell++) {
            x.raises(cell, heights[cell]);
        }
    }

    /** The element, or what tells which exception was thrown instead. */
    static long elementOrThrown(HillsLieDown x, int d, int i) {
        try {
            return x.element(d, i);
        } catch (RuntimeException e) {
            if (e.getClass() == IllegalArgumentException.class) {
                return NO_SHELF;
            }
            return e.getClass() == IllegalStateException.class ? NO_ELEMENT : THROWS_OTHERWISE;
        }
    }

    static final long NO_SHELF = 999999999999L;
    static final long NO_ELEMENT = 999999999998L;
    static final long THROWS_OTHERWISE = 999999999997L;

    /** All that can be seen of the country; a refusal changes none of it. */
    static String seen(HillsLieDown x) {
        StringBuilder seen = new StringBuilder("day " + x.count(1));
        for (int cell = 0; cell < 15; cell++) {
            seen.append(cell == 0 ? ", heights " : " ").append(x.height(cell));
        }
        int many = x.count(0);
        for (int w = 0; w < many; w++) {
            for (int what = 0; what < 9; what++) {
                seen.append(what == 0 ? ", one " : " ").append(x.walker(w, what));
            }
        }
        return seen.toString();
    }

    /** All that can be seen of a SHELF. */
    static String seenOnShelf(HillsLieDown x, int d) {
        StringBuilder seen = new StringBuilder("cost " + x.cost(d) + ", toss " + x.toss(d) + ", row");
        for (int i = 0; i < 100 && elementOrThrown(x, d, i) != NO_ELEMENT; i++) {
            seen.append(' ').append(elementOrThrown(x, d, i));
        }
        return seen.toString();
    }

    static void same(String call, String got, String want) {
        looked++;
        if (!got.equals(want)) {
            wrong++;
            System.out.println(call + ": there is \"" + got + "\", due is \"" + want + "\"");
        }
    }

    /** All CELLS as high as that. */
    static HillsLieDown flat(int v) {
        HillsLieDown x = new HillsLieDown();
        for (int cell = 0; cell < 15; cell++) {
            x.raises(cell, v);
        }
        return x;
    }

    /** As many DAYS pass as are told, be they more than 60. */
    static void passDays(HillsLieDown x, int n) {
        for (int rest = n; rest > 0; rest -= 60) {
            x.days(Math.min(60, rest));
        }
    }

    /**
     * A country (found by searching) where they wait for one another so long that the one with
     * number 0 goes every DAY from 54 to 64, but for 55: to 6 on DAY 60, to 5 on DAY 61.
     */
    static HillsLieDown slowCountry() {
        HillsLieDown x = new HillsLieDown();
        heights(x, 10, 19, 4, 1, 2, 2, 3, 3, 2, 3, 5, 7, 18, 16, 7);
        int[][] ones = {{HIDER, 2, 70, 14, 1}, {DEAD, 0, 110, 0, 2}, {TWIN, 8, 60, 1, 2}, {RIDER, 0, 120, 0, 2},
            {AUNT, 8, 110, 13, 1}, {WALKER, 5, 70, 12, 1}};
        for (int w = 0; w < ones.length; w++) {
            due("comes", bring(x, ones[w][0], ones[w][1], ones[w][2], ones[w][3]), w);
            due("turns", x.turns(w, ones[w][4]), 0);
        }
        return x;
    }
}
