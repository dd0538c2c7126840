/** Promises 28 to 33: ages, what he is, two, fog, mean, shares. */
public final class AgesTest {
    private static final int[] OUTSIDE_SHELVES = {-1, 8, Integer.MIN_VALUE, Integer.MAX_VALUE};

    public static void main(String[] args) {
        ages();
        agesRefusals();
        whatIs();
        whatIsRefusals();
        two();
        fog();
        mean();
        shares();
        Check.end("AgesTest");
    }

    private static void agesAre(HillsLieDown x, int many, int least, int greatest) {
        Check.due("how many", x.ages(0, 0, 0), many);
        Check.due("the least", x.ages(0, 0, 1), least);
        Check.due("the greatest", x.ages(0, 0, 2), greatest);
    }

    private static void ages() {
        HillsLieDown x = new HillsLieDown();
        Check.bring(x, Check.WALKER, 0, 30, 3);
        Check.rowOf(x, 0, Check.BYTES);
        agesAre(x, 121, 0, 120);
        Check.rowOf(x, 0, Check.BYTES, 5);
        agesAre(x, 70, 0, 69);
        Check.rowOf(x, 0, Check.INTS, 3);
        agesAre(x, 10, 80, 89);
        Check.rowOf(x, 0, Check.INTS, -1);
        agesAre(x, 0, -4, -4);
        Check.rowOf(x, 0, Check.SHORTS, -1);
        agesAre(x, 0, -4, -4);
        // He stays, so each DAY tells the same.
        Check.rowOf(x, 0, Check.SHORTS, 3, 3, 3);
        agesAre(x, 10, 80, 89);
        Check.rowOf(x, 0, Check.SHORTS, 3, 3, 4);
        agesAre(x, 0, -4, -4);
        // The least number of the SORT is skipped, and of that SORT alone.
        Check.rowOf(x, 0, Check.BYTES, -128, -128, 4);
        agesAre(x, 10, 70, 79);
        Check.rowOf(x, 0, Check.SHORTS, -128, 4);
        agesAre(x, 0, -4, -4);
        Check.rowOf(x, 0, Check.SHORTS, -32768, 4);
        agesAre(x, 10, 70, 79);
        Check.rowOf(x, 0, Check.INTS, -32768, 4);
        agesAre(x, 0, -4, -4);
        Check.rowOf(x, 0, Check.INTS, Integer.MIN_VALUE, 4);
        agesAre(x, 10, 70, 79);
        // On his WAY: 3 then 7 high, up to 60 (69) he stands 2 lower than 7.
        x.turns(0, 2);
        Check.heights(x, 5, 5, 5, 5, 7, 9);
        Check.rowOf(x, 0, Check.BYTES, -128, 7, 9, 5);
        agesAre(x, 70, 0, 69);
        // One of 70 .. is stuck: 4 high, and 3 up.
        Check.rowOf(x, 0, Check.BYTES, 4, 4, -128, 4);
        agesAre(x, 10, 70, 79);
        Check.due("as it was", x.walker(0, 2), 30);
        Check.due("as it was", x.walker(0, 3), 3);
        Check.due("as it was", x.count(1), 0);
        // As many DAYS as a ROW may have: 100 elements, the last behind 99 DAYS.
        Check.due("row", x.row(0, Check.BYTES, 100), 0);
        for (int i = 0; i < 99; i++) {
            x.put(0, i, -128);
        }
        x.put(0, 99, 5);
        x.turns(0, 1);
        agesAre(x, 70, 0, 69);
        Check.bring(x, Check.WALKER, 0, 90, 14);
        x.turns(1, 1);
        // Of who else goes, too: the other one walks into his CELL, PRESSES 3 there.
        x.turns(0, 0);
        x.raises(5, 5);
        x.raises(4, 5);
        Check.rowOf(x, 0, Check.BYTES, 5, 5, 5, 5, 5, 5, 5, 5, 5, 5, 5, 5);
        agesAre(x, 70, 0, 69);
        Check.rowOf(x, 0, Check.BYTES, 5, 2);
        agesAre(x, 0, -4, -4);
    }

    private static void agesRefusals() {
        HillsLieDown x = new HillsLieDown();
        Check.due("nobody", x.ages(0, 0, 0), -1);
        Check.bring(x, Check.WALKER, 0, 30, 3);
        for (int d : OUTSIDE_SHELVES) {
            Check.due("no such shelf", x.ages(d, 0, 0), -1);
        }
        Check.due("nothing", x.ages(0, 0, 0), -11);
        Check.dueAll("-1 ahead of -11", -1, x.ages(0, 1, 0), x.ages(0, -1, 0), x.ages(0, 0, -1), x.ages(0, 0, 3));
        x.keep(0, 1, 0, 0);
        Check.due("no ROW", x.ages(0, 0, 0), -12);
        Check.dueAll("-1 ahead of -12", -1, x.ages(0, 1, 0), x.ages(0, 0, 3));
    }

    private static void whatIs() {
        HillsLieDown x = new HillsLieDown();
        Check.heights(x, 20, 20, 20, 20, 20, 20, 20, 20, 20, 20, 20, 20, 20, 20, 20);
        Check.bring(x, Check.AUNT, 6, 100, 7);
        // Of 100: WALKER 4, RIDER 3, HIDER 4, SLEEPER 6, DEAD 12, AUNT 3 and 2, TWIN 5, YOUNG 0.
        int[] presses = {0, 3, 4, 5, 6, 12, 7};
        int[] kinds = {1 << 7, 1 << 1, 1 | 1 << 2, 1 << 5 | 1 << 6, 1 << 3, 1 << 4, 0};
        int[] figures = {0, 0b111, 0b111000, 0b111000000, 0b1000000000, 0, 0};
        for (int i = 0; i < presses.length; i++) {
            Check.rowOf(x, 0, Check.SHORTS, 20 - presses[i]);
            Check.due("KINDS that PRESS " + presses[i], x.whatIs(0, 0, 0), kinds[i]);
            Check.due("FIGURES that PRESS " + presses[i], x.whatIs(0, 0, 1), figures[i]);
        }
        Check.rowOf(x, 0, Check.SHORTS);
        Check.due("all KINDS", x.whatIs(0, 0, 0), 255);
        Check.due("all FIGURES", x.whatIs(0, 0, 1), 1023);
        Check.rowOf(x, 0, Check.BYTES, -128, 15);
        Check.due("skipped likewise", x.whatIs(0, 0, 0), 1 << 5 | 1 << 6);
        // On his WAY by STRIDE: 3 up, PRESSING as he does: none of an AUNT's 100 years, the YOUNG one.
        x.turns(0, 2);
        x.raises(7, 17);
        Check.rowOf(x, 0, Check.BYTES, -128, 20);
        Check.due("KINDS", x.whatIs(0, 0, 0), 1 << 7);
        Check.due("FIGURES", x.whatIs(0, 0, 1), 0);
        x.moves(0, 14);
        Check.due("as it was", x.walker(0, 0), 5);
        Check.due("as it was", x.walker(0, 1), 6);
        Check.due("as it was", x.walker(0, 5), 5);
        // STRIDE by FIGURE: a YOUNG one goes up 3, 4, 5 or 6.
        HillsLieDown y = new HillsLieDown();
        Check.bring(y, Check.YOUNG, 0, 10, 3);
        y.turns(0, 2);
        y.raises(4, 10);
        Check.rowOf(y, 0, Check.BYTES, 5, 10);
        Check.due("FIGURES that go up 5", y.whatIs(0, 0, 1), 0b1111000000);
        Check.due("KINDS with 0 that go up 5", y.whatIs(0, 0, 0), 0);
    }

    private static void whatIsRefusals() {
        HillsLieDown x = new HillsLieDown();
        Check.due("nobody", x.whatIs(0, 0, 0), -1);
        Check.bring(x, Check.WALKER, 0, 30, 3);
        for (int d : OUTSIDE_SHELVES) {
            Check.due("no such shelf", x.whatIs(d, 0, 0), -1);
        }
        Check.due("nothing", x.whatIs(0, 0, 0), -11);
        Check.dueAll("-1 ahead of -11", -1, x.whatIs(0, 1, 0), x.whatIs(0, 0, -1), x.whatIs(0, 0, 2));
        x.keep(0, 1, 0, 0);
        Check.due("no ROW", x.whatIs(0, 0, 0), -12);
        Check.dueAll("-1 ahead of -12", -1, x.whatIs(0, 1, 0), x.whatIs(0, 0, 2));
    }

    private static void two() {
        HillsLieDown x = new HillsLieDown();
        Check.dueAll("nobody", -1, x.two(0, 1), x.two(0, 0));
        Check.bring(x, Check.WALKER, 0, 60, 3);
        Check.due("one", x.two(0, 1), -1);
        Check.bring(x, Check.WALKER, 0, 60, 9);
        Check.due("all is one to them", x.two(0, 1), 0);
        x.raises(9, 4);
        Check.due("0 goes over, 1 stays", x.two(0, 1), 10);
        Check.due("1 stays, 0 goes over", x.two(1, 0), 1);
        Check.dueAll("two", -1, x.two(0, 0), x.two(1, 1), x.two(0, 2), x.two(2, 0), x.two(-1, 0), x.two(0, -1));
        // Both PRESS: together each has less than alone.
        x.raises(9, 5);
        Check.bring(x, Check.WALKER, 0, 80, 1);
        Check.bring(x, Check.WALKER, 0, 80, 12);
        Check.due("1 goes to 0's CELL", x.two(2, 3), 1);
        x.raises(12, 3);
        Check.due("0 goes to 1's CELL, the lower one", x.two(2, 3), 1);
        x.raises(12, 2);
        Check.due("now 1 is as well off alone", x.two(2, 3), 10);
        Check.due("all as it was", x.walker(2, 3), 1);
    }

    private static void fogIs(HillsLieDown x, int cell, int n, int t, long above, long below) {
        String call = "fog(0, " + cell + ", " + n + ", " + t + ")";
        Check.due(call + " above", x.fog(0, cell, n, t, 0), above);
        Check.due(call + " below", x.fog(0, cell, n, t, 1), below);
    }

    private static void fog() {
        HillsLieDown x = new HillsLieDown();
        Check.due("nobody", x.fog(0, 0, 0, 2, 0), Check.TOLD_NO_SUCH);
        Check.bring(x, Check.WALKER, 0, 60, 3);
        fogIs(x, 3, 7, 20, 1, 1);
        fogIs(x, 4, 7, 20, 0, 1);
        x.turns(0, 2);
        fogIs(x, 3, 0, 2, 1, 1);
        fogIs(x, 4, 0, 2, 0, 1);
        fogIs(x, 3, 1, 4, 1, 4);
        fogIs(x, 4, 1, 4, 3, 4);
        fogIs(x, 4, 2, 4, 3, 8);
        fogIs(x, 5, 3, 2, 3, 8);
        fogIs(x, 10, 7, 20, 893871739, 1280000000);
        fogIs(x, 3, 7, 20, 1, 1280000000);
        fogIs(x, 2, 7, 20, 0, 1);
        // Ahead of a hill he ends up with all of the rest: 1 less (1 and 3 times 2) of 27.
        x.raises(6, 8);
        fogIs(x, 5, 3, 3, 20, 27);
        long told = Check.TOLD_NO_SUCH;
        Check.dueAll("fog", told, x.fog(-1, 0, 0, 2, 0), x.fog(1, 0, 0, 2, 0), x.fog(0, -1, 0, 2, 0),
            x.fog(0, 15, 0, 2, 0), x.fog(0, 0, -1, 2, 0), x.fog(0, 0, 8, 2, 0), x.fog(0, 0, 0, 1, 0),
            x.fog(0, 0, 0, 0, 0), x.fog(0, 0, 0, 21, 0), x.fog(0, 0, 0, 2, -1), x.fog(0, 0, 0, 2, 2));
        Check.due("as it was", x.walker(0, 3), 3);
    }

    private static void mean() {
        HillsLieDown x = new HillsLieDown();
        Check.due("above", x.mean(0), 5);
        Check.due("below", x.mean(1), 1);
        x.raises(0, 6);
        Check.due("above", x.mean(0), 76);
        Check.due("below", x.mean(1), 15);
        Check.bring(x, Check.WALKER, 0, 70, 3);
        Check.bring(x, Check.WALKER, 0, 90, 4);
        Check.due("above", x.mean(0), 24);
        Check.due("below", x.mean(1), 5);
        Check.heights(x, 0, 0, 0, 0, 0, 0, 0, 0, 0, 0, 0, 0, 0, 0, 0);
        Check.due("above", x.mean(0), 0);
        Check.due("below", x.mean(1), 1);
        Check.dueAll("mean", Check.TOLD_NO_SUCH, x.mean(-1), x.mean(2), x.mean(Integer.MAX_VALUE));
    }

    private static void shares() {
        for (int n = 1; n <= 9; n++) {
            int[] has = new int[n];
            for (int days = 0; days <= 99; days++) {
                HillsLieDown x = new HillsLieDown();
                for (int i = 0; i < n; i++) {
                    Check.due("shares(" + n + ", " + days + ", " + i + ")", x.shares(n, days, i), has[i]);
                }
                has[days % n]++;
            }
        }
        HillsLieDown x = new HillsLieDown();
        Check.dueAll("shares", -1, x.shares(0, 1, 0), x.shares(10, 1, 0), x.shares(-1, 1, 0), x.shares(3, -1, 0),
            x.shares(3, 100, 0), x.shares(3, 1, -1), x.shares(3, 1, 3), x.shares(0, 1, -1));
    }
}
