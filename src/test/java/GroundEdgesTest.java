/** Promises 10 to 18, edge by edge: each method stands for a sentence that names a boundary. */
public final class GroundEdgesTest {
    private static final int MIN = Integer.MIN_VALUE;
    private static final int MAX = Integer.MAX_VALUE;

    public static void main(String[] args) {
        groundCells();
        groundIs0AtLeast();
        groundBySpread();
        groundAwayIs0AtLeast();
        groundOfSeveral();
        waterCells();
        waterNoneOnTheEdge();
        waterByTheLesserSide();
        waterByGround();
        lakes();
        riseCells();
        riseMayBeBelow0();
        steepestWhat();
        steepestAllFlat();
        steepestOfSeveral();
        flattestOfSeveral();
        steepestEitherWay();
        behindRanges();
        behindDays();
        behindMayPass999();
        groundThenRanges();
        groundThenDays();
        arrivesRanges();
        arrivesFirst();
        arrivesBehind60();
        arrivesNever();
        stuckRanges();
        stuckAtOnce();
        stuckFirst();
        mindChangesNothing();
        Check.end("GroundEdgesTest");
    }

    private static void groundIs(HillsLieDown x, int from, int... levels) {
        for (int i = 0; i < levels.length; i++) {
            Check.due("ground(" + (from + i) + ")", x.ground(from + i), levels[i]);
        }
    }

    /** CELLS 0 .. 14: "-1". */
    private static void groundCells() {
        HillsLieDown x = new HillsLieDown();
        x.raises(0, 0);
        x.raises(14, 20);
        Check.due("the first CELL", x.ground(0), 0);
        Check.due("the last CELL", x.ground(14), 20);
        Check.dueAll("no such CELL", -1, x.ground(-1), x.ground(15), x.ground(MIN), x.ground(MAX));
        // One on the edge PRESSES there, and what is beyond the edge is no CELL.
        Check.bring(x, Check.DEAD, 0, 60, 0);
        Check.bring(x, Check.DEAD, 0, 60, 14);
        groundIs(x, 0, 0, 2, 3, 5);
        groundIs(x, 11, 5, 3, 2, 16);
    }

    /** "its HEIGHT less all that WALKERS PRESS there (0 at least)". */
    private static void groundIs0AtLeast() {
        HillsLieDown x = new HillsLieDown();
        Check.bring(x, Check.WALKER, 0, 120, 7);
        x.raises(7, 7);
        groundIs(x, 7, 1);
        x.raises(7, 6);
        groundIs(x, 7, 0);
        x.raises(7, 5);
        groundIs(x, 7, 0);
        x.raises(7, 0);
        groundIs(x, 7, 0);
        Check.due("HEIGHT", x.height(7), 0);
        Check.bring(x, Check.DEAD, 0, 120, 3);
        groundIs(x, 0, 5, 0, 0, 0, 0, 0, 5);
        x.raises(2, 15);
        x.raises(4, 16);
        x.raises(1, 14);
        x.raises(5, 15);
        groundIs(x, 0, 5, 0, 0, 0, 1, 1, 5);
    }

    /** "SPREADS (how many CELLS to either side he does so, each CELL away 1 less)". */
    private static void groundBySpread() {
        int[] kinds = {Check.WALKER, Check.RIDER, Check.HIDER, Check.SLEEPER, Check.DEAD, Check.AUNT, Check.TWIN, Check.YOUNG};
        int[][] due = {
            {20, 20, 20, 14, 20, 20, 20}, {20, 20, 16, 15, 16, 20, 20}, {20, 20, 20, 14, 20, 20, 20},
            {20, 20, 20, 12, 20, 20, 20}, {20, 6, 5, 4, 5, 6, 20}, {20, 14, 13, 12, 13, 14, 20},
            {20, 20, 20, 13, 20, 20, 20}, {20, 20, 20, 20, 20, 20, 20}};
        for (int kind : kinds) {
            HillsLieDown x = Check.flat(20);
            Check.bring(x, kind, 9, 120, 7);
            groundIs(x, 4, due[kind]);
            Check.due("no farther", x.ground(3) + x.ground(11), 40);
        }
    }

    /** "what one PRESSES at a CELL away from his is 0 at least there, too". */
    private static void groundAwayIs0AtLeast() {
        // An AUNT by FIGURE alone: 0, 1, 2, 3 under her; a RIDER of 70 and of 80.
        int[][] due = {{5, 5, 5, 5, 5}, {5, 5, 4, 5, 5}, {5, 4, 3, 4, 5}, {4, 3, 2, 3, 4}};
        for (int i = 0; i < 4; i++) {
            HillsLieDown x = new HillsLieDown();
            Check.bring(x, Check.AUNT, 3 * i, 0, 7);
            groundIs(x, 5, due[i]);
        }
        HillsLieDown x = new HillsLieDown();
        Check.bring(x, Check.RIDER, 0, 70, 3);
        Check.bring(x, Check.RIDER, 0, 80, 7);
        Check.bring(x, Check.RIDER, 0, 90, 11);
        groundIs(x, 0, 5, 5, 5, 5, 5, 5, 5, 4, 5, 5, 4, 3, 4, 5, 5);
        // Nor does it lift what another one PRESSES.
        HillsLieDown y = new HillsLieDown();
        Check.bring(y, Check.DEAD, 0, 0, 7);
        Check.bring(y, Check.WALKER, 0, 80, 8);
        Check.bring(y, Check.WALKER, 0, 80, 5);
        groundIs(y, 5, 3, 5, 5, 3);
    }

    /** "less all that WALKERS PRESS there". */
    private static void groundOfSeveral() {
        HillsLieDown x = Check.flat(20);
        for (int w = 0; w < 6; w++) {
            Check.bring(x, Check.WALKER, 0, 80, 7);
            groundIs(x, 6, 20, 18 - 2 * w, 20);
        }
        x.moves(5, 14);
        x.moves(0, 0);
        groundIs(x, 0, 18, 20);
        groundIs(x, 7, 12);
        groundIs(x, 13, 20, 18);
    }

    /** "WATER of a CELL (cell -1: all). -1." */
    private static void waterCells() {
        HillsLieDown x = Check.flat(0);
        x.raises(0, 20);
        x.raises(14, 20);
        Check.due("all", x.water(-1), 13 * 20);
        Check.due("the first CELL", x.water(0), 0);
        Check.due("beside it", x.water(1), 20);
        Check.due("beside the last", x.water(13), 20);
        Check.due("the last CELL", x.water(14), 0);
        Check.dueAll("no such CELL", -1, x.water(-2), x.water(15), x.water(MIN), x.water(MAX));
        Check.due("all of none", new HillsLieDown().water(-1), 0);
    }

    /** "none on the edge"; "0 on the edge". */
    private static void waterNoneOnTheEdge() {
        HillsLieDown x = new HillsLieDown();
        x.raises(0, 0);
        x.raises(14, 0);
        Check.dueAll("lower than all", 0, x.water(0), x.water(14), x.water(1), x.water(13), x.water(-1), x.lakes());
        Check.bring(x, Check.WALKER, 0, 120, 0);
        Check.bring(x, Check.WALKER, 0, 120, 14);
        x.raises(0, 5);
        x.raises(14, 5);
        Check.dueAll("a hole on the edge", 0, x.water(0), x.water(14), x.water(-1), x.lakes());
        x.moves(0, 1);
        Check.due("the hole beside it is shut now", x.water(1), 5);
        Check.due("on the edge there is none", x.water(0), 0);
    }

    /** "each lower than the lesser of the highest GROUND to its left and the highest to its right". */
    private static void waterByTheLesserSide() {
        HillsLieDown x = new HillsLieDown();
        x.raises(3, 9);
        Check.due("one side alone", x.water(-1), 0);
        x.raises(9, 7);
        for (int cell = 0; cell < 15; cell++) {
            Check.due("up to the lesser one", x.water(cell), cell > 3 && cell < 9 ? 2 : 0);
        }
        x.raises(6, 7);
        Check.due("as high as the lesser one: none", x.water(6), 0);
        x.raises(6, 6);
        Check.due("1 lower", x.water(6), 1);
        x.raises(6, 8);
        Check.due("higher", x.water(6), 0);
        Check.due("now up to that", x.water(5), 3);
        Check.due("as it was", x.water(7), 2);
        // The highest counts, not the one beside.
        HillsLieDown y = new HillsLieDown();
        Check.heights(y, 20, 1, 2, 0, 9, 3, 4, 0, 1, 0, 5, 0, 2, 1, 10);
        int[] due = {0, 9, 8, 10, 1, 7, 6, 10, 9, 10, 5, 10, 8, 9, 0};
        for (int cell = 0; cell < 15; cell++) {
            Check.due("water(" + cell + ")", y.water(cell), due[cell]);
        }
    }

    /** WATER is by GROUND, not by HEIGHT. */
    private static void waterByGround() {
        HillsLieDown x = new HillsLieDown();
        Check.bring(x, Check.WALKER, 0, 70, 7);
        Check.due("in his hole", x.water(7), 1);
        Check.due("all", x.water(-1), 1);
        x.raises(7, 6);
        Check.due("he has made the hill flat", x.water(-1), 0);
        x.raises(5, 9);
        x.raises(7, 10);
        Check.due("the dam is 9 under him", x.water(6), 4);
    }

    /** "how many LAKES (CELLS with WATER one behind the other are one)". */
    private static void lakes() {
        HillsLieDown x = new HillsLieDown();
        Check.due("none", x.lakes(), 0);
        x.raises(1, 4);
        Check.due("one CELL", x.lakes(), 1);
        x.raises(13, 4);
        Check.due("two, beside both edges", x.lakes(), 2);
        for (int cell = 3; cell < 13; cell += 2) {
            x.raises(cell, 4);
            Check.due("one more", x.lakes(), 2 + cell / 2);
        }
        Check.due("each other CELL", x.lakes(), 7);
        Check.due("CELLS with WATER", x.count(5), 0b10101010101010);
        for (int cell = 2; cell < 13; cell += 2) {
            x.raises(cell, 4);
        }
        Check.due("all are one", x.lakes(), 1);
        Check.due("thirteen CELLS", x.water(-1), 13);
        x.raises(7, 5);
        Check.due("just as high as the WATER: two", x.lakes(), 2);
        x.raises(7, 4);
        x.raises(6, 1);
        x.raises(8, 0);
        Check.due("of unlike depth: one", x.lakes(), 1);
        x.raises(0, 4);
        Check.due("up to the lesser edge: two CELLS lower than that", x.lakes(), 2);
        x.raises(7, 3);
        Check.due("the CELL between them too", x.lakes(), 1);
    }

    /** "RISE from a CELL to the next greater one": "-1 (14, too)", told as 1000000001. */
    private static void riseCells() {
        HillsLieDown x = new HillsLieDown();
        x.raises(0, 4);
        x.raises(14, 8);
        Check.due("from the first", x.rise(0), 1);
        Check.due("to the last", x.rise(13), 3);
        Check.due("no next greater one", x.rise(14), 1000000001);
        Check.dueAll("no such CELL", 1000000001, x.rise(-1), x.rise(15), x.rise(MIN), x.rise(MAX));
    }

    /** "(may be below 0)". */
    private static void riseMayBeBelow0() {
        HillsLieDown x = Check.flat(0);
        x.raises(7, 20);
        Check.due("the greatest", x.rise(6), 20);
        Check.due("the least", x.rise(7), -20);
        Check.due("none", x.rise(8), 0);
        x.raises(9, 1);
        Check.due("-1 is an answer", x.rise(9), -1);
        Check.bring(x, Check.WALKER, 0, 70, 9);
        Check.due("by GROUND", x.rise(9), 0);
    }

    /** "-1". */
    private static void steepestWhat() {
        HillsLieDown x = new HillsLieDown();
        Check.dueAll("no such what", -1, x.steepest(-1), x.steepest(4), x.steepest(MIN), x.steepest(MAX));
    }

    private static void steepestIs(HillsLieDown x, int cell, int rise, int flattest, int least) {
        Check.due("STEEPEST", x.steepest(0), cell);
        Check.due("that", x.steepest(1), rise);
        Check.due("FLATTEST", x.steepest(2), flattest);
        Check.due("that", x.steepest(3), least);
    }

    /** "of several the least": of all alike the first CELL. */
    private static void steepestAllFlat() {
        steepestIs(new HillsLieDown(), 0, 0, 0, 0);
        HillsLieDown x = new HillsLieDown();
        for (int cell = 0; cell < 15; cell++) {
            x.raises(cell, cell % 2 == 0 ? 3 : 8);
        }
        steepestIs(x, 0, 5, 0, 5);
    }

    /** "the CELL (0 .. 13) whose RISE is greatest either way, of several the least". */
    private static void steepestOfSeveral() {
        HillsLieDown x = new HillsLieDown();
        x.raises(14, 6);
        steepestIs(x, 13, 1, 0, 0);
        x.raises(0, 6);
        steepestIs(x, 0, 1, 1, 0);
        x.raises(0, 5);
        x.raises(7, 4);
        steepestIs(x, 6, 1, 0, 0);
        x.raises(7, 6);
        steepestIs(x, 6, 1, 0, 0);
        x.raises(14, 3);
        steepestIs(x, 13, 2, 0, 0);
    }

    /** "FLATTEST likewise least". */
    private static void flattestOfSeveral() {
        HillsLieDown x = new HillsLieDown();
        for (int cell = 0; cell < 15; cell++) {
            x.raises(cell, cell % 2 == 0 ? 0 : 20);
        }
        x.raises(14, 19);
        steepestIs(x, 0, 20, 13, 1);
        x.raises(6, 19);
        steepestIs(x, 0, 20, 5, 1);
        x.raises(0, 19);
        steepestIs(x, 1, 20, 0, 1);
        x.raises(6, 20);
        steepestIs(x, 1, 20, 5, 0);
        x.raises(14, 20);
        steepestIs(x, 1, 20, 5, 0);
    }

    /** "greatest either way": a RISE below 0 counts as one above. */
    private static void steepestEitherWay() {
        HillsLieDown x = new HillsLieDown();
        x.raises(0, 7);
        x.raises(14, 6);
        steepestIs(x, 0, 2, 1, 0);
        x.raises(14, 8);
        steepestIs(x, 13, 3, 1, 0);
        x.raises(0, 8);
        steepestIs(x, 0, 3, 1, 0);
        x.raises(0, 0);
        x.raises(14, 0);
        steepestIs(x, 0, 5, 1, 0);
        Check.bring(x, Check.WALKER, 0, 120, 7);
        steepestIs(x, 0, 5, 1, 0);
        x.raises(7, 4);
        x.raises(0, 1);
        x.raises(14, 1);
        steepestIs(x, 6, 5, 1, 0);
    }

    /** "n DAYS on (0 .. 60)": "-1". */
    private static void behindRanges() {
        HillsLieDown x = new HillsLieDown();
        Check.due("nobody", x.behind(0, 0), -1);
        for (int w = 0; w < 6; w++) {
            Check.bring(x, Check.WALKER, 0, 60, 7 + w);
        }
        Check.due("the first one, the least n", x.behind(0, 0), 7);
        Check.due("the last one, the greatest n", x.behind(5, 60), 12);
        Check.dueAll("no such one", -1, x.behind(-1, 0), x.behind(6, 0), x.behind(MIN, 0), x.behind(MAX, 0));
        Check.dueAll("no such n", -1, x.behind(0, -1), x.behind(0, 61), x.behind(0, MIN), x.behind(0, MAX));
    }

    /** 0 DAYS on all is as now; each DAY counts, up to the sixtieth. */
    private static void behindDays() {
        HillsLieDown x = Check.slowCountry();
        int[] due = {9, 8, 7, 6};
        for (int i = 0; i < 4; i++) {
            Check.due("behind " + (57 + i), x.behind(0, 57 + i), due[i]);
        }
        Check.due("behind none", x.behind(0, 0), 14);
        Check.due("behind 53", x.behind(0, 53), 12);
        Check.due("behind 54", x.behind(0, 54), 11);
        Check.due("behind 55", x.behind(0, 55), 11);
        Check.due("behind 56", x.behind(0, 56), 10);
        x.days(60);
        Check.due("so it comes", x.walker(0, 3), 6);
        Check.due("and goes on", x.behind(0, 1), 5);
    }

    /** "(DAY may pass 999 there)". */
    private static void behindMayPass999() {
        HillsLieDown x = new HillsLieDown();
        Check.passDays(x, 999);
        Check.bring(x, Check.WALKER, 0, 80, 3);
        x.turns(0, 1);
        Check.due("behind 1", x.behind(0, 1), 2);
        Check.due("behind 60", x.behind(0, 60), 0);
        Check.due("GROUND", x.groundThen(2, 1), 3);
        Check.due("all WATER", x.groundThen(-1, 60), 0);
        Check.due("ARRIVES", x.arrives(0, 0), 3);
        Check.due("STUCK", x.stuck(0), 3);
        Check.due("FOG", x.fog(0, 0, 3, 2, 1), 8);
        Check.rowOf(x, 0, Check.BYTES, 2, 2, 2, 0, 0);
        Check.due("JUDGED", x.judge(0), -4);
        Check.rowOf(x, 0, Check.BYTES, 3, 3, 3, 3, 3);
        Check.due("AGES", x.ages(0, 0, 0), 10);
        Check.due("WHAT HE IS", x.whatIs(0, 0, 0), 1 | 1 << 2);
        Check.due("COUNTRIES", x.countries(1, 1, 0) / 2 + x.countries(1, 1, 1), 1);
        Check.due("DAY is as it was", x.count(1), 999);
        Check.due("he is where he was", x.walker(0, 3), 3);
    }

    /** "n DAYS on: GROUND of a CELL (cell -1: all WATER). -1." */
    private static void groundThenRanges() {
        HillsLieDown x = new HillsLieDown();
        x.raises(0, 20);
        x.raises(14, 9);
        Check.due("the first CELL, the least n", x.groundThen(0, 0), 20);
        Check.due("the last CELL, the greatest n", x.groundThen(14, 60), 9);
        Check.due("all WATER", x.groundThen(-1, 0), 13 * 4);
        Check.due("all WATER", x.groundThen(-1, 60), 13 * 4);
        Check.dueAll("no such CELL", -1, x.groundThen(-2, 0), x.groundThen(15, 0), x.groundThen(MIN, 0), x.groundThen(MAX, 0));
        Check.dueAll("no such n", -1, x.groundThen(0, -1), x.groundThen(0, 61), x.groundThen(-1, -1),
            x.groundThen(-1, 61), x.groundThen(0, MIN), x.groundThen(0, MAX));
    }

    private static void groundThenDays() {
        HillsLieDown x = new HillsLieDown();
        Check.bring(x, Check.WALKER, 0, 80, 1);
        x.turns(0, 2);
        for (int n = 0; n <= 60; n++) {
            int at = Math.min(14, 1 + n);
            Check.due("under him behind " + n, x.groundThen(at, n), 3);
            Check.due("behind him", x.groundThen(at - 1, n), 5);
            Check.due("all WATER behind " + n, x.groundThen(-1, n), at == 14 ? 0 : 2);
        }
        // He PRESSES 1, and goes to 6 on DAY 60: it rises behind him at 7.
        HillsLieDown y = Check.slowCountry();
        Check.due("under him behind 59", y.groundThen(7, 59), 2);
        Check.due("behind him on DAY 60", y.groundThen(7, 60), 3);
        Check.due("under him behind 60", y.groundThen(6, 60), 2);
        Check.due("none there yet behind 59", y.groundThen(6, 59), 3);
    }

    /** "-1". */
    private static void arrivesRanges() {
        HillsLieDown x = new HillsLieDown();
        Check.due("nobody", x.arrives(0, 0), -1);
        for (int w = 0; w < 6; w++) {
            Check.bring(x, Check.WALKER, 0, 60, w < 3 ? 0 : 14);
        }
        Check.due("the first one, the first CELL", x.arrives(0, 0), 0);
        Check.due("the last one, the last CELL", x.arrives(5, 14), 0);
        Check.dueAll("no such one", -1, x.arrives(-1, 0), x.arrives(6, 0), x.arrives(MIN, 0), x.arrives(MAX, 0));
        Check.dueAll("no such CELL", -1, x.arrives(0, -1), x.arrives(0, 15), x.arrives(0, MIN), x.arrives(0, MAX));
    }

    /** "behind how many DAYS .. one is AT a CELL first". */
    private static void arrivesFirst() {
        HillsLieDown x = new HillsLieDown();
        Check.bring(x, Check.WALKER, 0, 60, 0);
        x.turns(0, 2);
        for (int cell = 0; cell < 15; cell++) {
            Check.due("at " + cell, x.arrives(0, cell), cell);
        }
        x.raises(5, 8);
        Check.due("ahead of the hill he is first behind 4, and ever after", x.arrives(0, 4), 4);
        Check.due("where he is now, though he will leave", x.arrives(0, 0), 0);
    }

    /** "behind how many DAYS (0 .. 60)": the sixtieth counts, one more does not. */
    private static void arrivesBehind60() {
        HillsLieDown x = Check.slowCountry();
        Check.due("behind 59", x.arrives(0, 7), 59);
        Check.due("behind 60", x.arrives(0, 6), 60);
        Check.due("behind 61", x.arrives(0, 5), -4);
        Check.due("behind 64", x.arrives(0, 2), -4);
        x.days(1);
        Check.due("now behind 60", x.arrives(0, 5), 60);
        Check.due("now behind 61", x.arrives(0, 4), -4);
    }

    /** "-4". */
    private static void arrivesNever() {
        HillsLieDown x = new HillsLieDown();
        Check.bring(x, Check.WALKER, 0, 60, 7);
        for (int cell = 0; cell < 15; cell++) {
            Check.due("without a WAY", x.arrives(0, cell), cell == 7 ? 0 : -4);
        }
        x.turns(0, 1);
        Check.due("behind his back", x.arrives(0, 8), -4);
        x.raises(0, 8);
        Check.due("too high", x.arrives(0, 0), -4);
        Check.due("up to there", x.arrives(0, 1), 6);
    }

    /** "-1". */
    private static void stuckRanges() {
        HillsLieDown x = new HillsLieDown();
        Check.due("nobody", x.stuck(0), -1);
        for (int w = 0; w < 6; w++) {
            Check.bring(x, Check.WALKER, 0, 60, 0);
            x.turns(w, 2);
        }
        Check.due("the first one", x.stuck(0), 14);
        Check.due("the last one", x.stuck(5), 14);
        Check.dueAll("no such one", -1, x.stuck(-1), x.stuck(6), x.stuck(MIN), x.stuck(MAX));
    }

    /** "behind how many (0 .. 60)": 0 if he does not go in the first DAY. */
    private static void stuckAtOnce() {
        HillsLieDown x = new HillsLieDown();
        Check.bring(x, Check.WALKER, 0, 60, 1);
        Check.due("without a WAY", x.stuck(0), 0);
        x.turns(0, 1);
        Check.due("one CELL more", x.stuck(0), 1);
        x.raises(0, 8);
        Check.due("too high", x.stuck(0), 0);
        x.raises(0, 5);
        x.moves(0, 0);
        Check.due("on the edge", x.stuck(0), 0);
        x.moves(0, 14);
        Check.due("all the road", x.stuck(0), 14);
    }

    /** "behind how many first he does not go in the next DAY": he may go on later. */
    private static void stuckFirst() {
        HillsLieDown x = new HillsLieDown();
        x.raises(5, 8);
        Check.bring(x, Check.WALKER, 0, 60, 3);
        Check.bring(x, Check.AUNT, 9, 0, 10);
        x.turns(0, 2);
        x.turns(1, 1);
        Check.due("ahead of the hill", x.stuck(0), 1);
        // On DAY 3 she is at 7, and the hill 7 high.
        Check.due("later he goes on", x.arrives(0, 5), 4);
        Check.due("and is on the edge then", x.behind(0, 60), 14);
    }

    /** "In mind": what is told of other DAYS changes nothing. */
    private static void mindChangesNothing() {
        HillsLieDown x = Check.slowCountry();
        String before = Check.seen(x);
        x.behind(0, 60);
        x.groundThen(7, 60);
        x.groundThen(-1, 60);
        x.arrives(0, 5);
        x.arrives(0, 6);
        x.stuck(0);
        Check.same("nothing changes", Check.seen(x), before);
    }
}
