/** Promises 34 to 39, edge by edge: each method stands for a sentence that names a boundary. */
public final class ToldEdgesTest {
    private static final int MIN = Integer.MIN_VALUE;
    private static final int MAX = Integer.MAX_VALUE;
    private static final int[] LEASTS = {-128, -32768, Integer.MIN_VALUE};

    public static void main(String[] args) {
        forgedRefusals();
        forgedOfEmptyRow();
        forgedFirst();
        forgedNoSuchCell();
        forgedSkipsNothing();
        judgeRefusals();
        judgeOfEmptyRow();
        judgeFirst();
        judgeSkipped();
        judgeOfFullRow();
        countriesRanges();
        countriesOfNobody();
        countriesBySeeds();
        countriesSeedWrapsAround();
        countriesTenDays();
        countriesChangeNothing();
        imageThatWasNeverTaken();
        imageOfAll();
        imageTakenAgain();
        imageLeavesShelves();
        imageOfNewObject();
        countWhat();
        countEdges();
        Check.end("ToldEdgesTest");
    }

    /** "-1, -11, -12": the first one as they are told. */
    private static void forgedRefusals() {
        HillsLieDown x = new HillsLieDown();
        Check.dueAll("no such SHELF", -1, x.forged(-1), x.forged(8), x.forged(MIN), x.forged(MAX));
        for (int d = 0; d < 8; d++) {
            Check.due("nothing", x.forged(d), -11);
            x.keep(d, 1, Check.WALKER, 1);
            Check.due("no ROW", x.forged(d), -12);
            x.row(d, d % 3, 0);
            Check.due("a ROW", x.forged(d), -4);
            x.keep(d, 0, 0, 0);
            Check.due("nothing any more", x.forged(d), -11);
        }
    }

    /** A ROW of 0 elements tells nothing that is not so: "-4". */
    private static void forgedOfEmptyRow() {
        HillsLieDown x = new HillsLieDown();
        for (int sort = 0; sort < 3; sort++) {
            x.row(0, sort, 0);
            Check.due("SORT " + sort, x.forged(0), -4);
        }
    }

    /** "a ROW tells GROUND of CELLS 0, 1, ..: the first that is not so". */
    private static void forgedFirst() {
        HillsLieDown x = new HillsLieDown();
        Check.bring(x, Check.WALKER, 0, 90, 14);
        x.raises(0, 0);
        int[] ground = {0, 5, 5, 5, 5, 5, 5, 5, 5, 5, 5, 5, 5, 5, 2};
        for (int sort = 0; sort < 3; sort++) {
            Check.rowOf(x, 0, sort, ground);
            Check.due("all CELLS are so", x.forged(0), -4);
            for (int i = 14; i >= 0; i--) {
                x.put(0, i, ground[i] + 1);
                Check.due("the first", x.forged(0), i);
            }
        }
        Check.rowOf(x, 0, Check.SHORTS, 256);
        Check.due("256 is not 0 as a short", x.forged(0), 0);
        Check.rowOf(x, 0, Check.BYTES, 256);
        Check.due("as a byte it is", x.forged(0), -4);
        Check.rowOf(x, 0, Check.BYTES, 0, 5, 5);
        Check.due("a ROW of some CELLS", x.forged(0), -4);
    }

    /** "(no such CELL, too)": 15, whatever it tells. */
    private static void forgedNoSuchCell() {
        HillsLieDown x = Check.flat(0);
        for (int n = 14; n < 18; n++) {
            x.row(0, Check.INTS, n);
            Check.due("a ROW of " + n, x.forged(0), n < 16 ? -4 : 15);
        }
        x.row(0, Check.BYTES, 100);
        Check.due("a ROW of 100", x.forged(0), 15);
        x.put(0, 15, -1);
        Check.due("a ROW of 100", x.forged(0), 15);
        x.put(0, 15, -128);
        Check.due("a ROW of 100", x.forged(0), 15);
        x.put(0, 14, 1);
        Check.due("the last CELL is ahead of it", x.forged(0), 14);
    }

    /** "skipped" is told of AGES, WHAT HE IS and JUDGED, not of FORGED. */
    private static void forgedSkipsNothing() {
        HillsLieDown x = new HillsLieDown();
        for (int sort = 0; sort < 3; sort++) {
            Check.rowOf(x, 0, sort, 5, LEASTS[sort], 5);
            Check.due("SORT " + sort, x.forged(0), 1);
        }
    }

    /** "-1, -11, -12": the first one as they are told. */
    private static void judgeRefusals() {
        HillsLieDown x = new HillsLieDown();
        Check.dueAll("no such SHELF", -1, x.judge(-1), x.judge(8), x.judge(MIN), x.judge(MAX));
        for (int d = 0; d < 8; d++) {
            Check.due("nothing", x.judge(d), -11);
            x.keep(d, 1, Check.WALKER, 1);
            Check.due("no ROW", x.judge(d), -12);
            x.row(d, d % 3, 0);
            Check.due("a ROW", x.judge(d), -4);
            x.keep(d, 0, 0, 0);
            Check.due("nothing any more", x.judge(d), -11);
        }
    }

    private static void judgeOfEmptyRow() {
        HillsLieDown x = new HillsLieDown();
        x.raises(7, 0);
        for (int sort = 0; sort < 3; sort++) {
            x.row(0, sort, 0);
            Check.due("SORT " + sort, x.judge(0), -4);
        }
    }

    /** "a ROW tells all WATER behind 0, 1, .. DAYS: the first that is not so". */
    private static void judgeFirst() {
        HillsLieDown x = new HillsLieDown();
        Check.bring(x, Check.WALKER, 0, 80, 3);
        x.turns(0, 1);
        int[] waters = {2, 2, 2, 0, 0, 0};
        for (int sort = 0; sort < 3; sort++) {
            Check.rowOf(x, 0, sort, waters);
            Check.due("all are so", x.judge(0), -4);
            for (int i = waters.length - 1; i >= 0; i--) {
                x.put(0, i, waters[i] + 1);
                Check.due("the first", x.judge(0), i);
            }
        }
        // As much as bytes can't tell: 13 CELLS 20 deep are 260, as a byte 4.
        HillsLieDown y = Check.flat(0);
        y.raises(0, 20);
        y.raises(14, 20);
        Check.rowOf(y, 0, Check.SHORTS, 260, 260);
        Check.due("260", y.judge(0), -4);
        Check.rowOf(y, 0, Check.BYTES, 260, 260);
        Check.due("4", y.judge(0), 0);
    }

    /** "(skipped likewise)": the least number of the SORT. */
    private static void judgeSkipped() {
        HillsLieDown x = new HillsLieDown();
        x.raises(7, 2);
        for (int sort = 0; sort < 3; sort++) {
            Check.rowOf(x, 0, sort, LEASTS[sort], 3, LEASTS[sort]);
            Check.due("skipped", x.judge(0), -4);
            Check.rowOf(x, 0, sort, LEASTS[sort], 4);
            Check.due("the DAY it stands for goes by", x.judge(0), 1);
            Check.rowOf(x, 0, sort, LEASTS[sort] + 1, 3);
            Check.due("1 more is not skipped", x.judge(0), 0);
            Check.rowOf(x, 0, sort, 3, LEASTS[sort] - 1);
            Check.due("the greatest is not skipped", x.judge(0), 1);
        }
        Check.rowOf(x, 0, Check.SHORTS, -128);
        Check.due("not the least short", x.judge(0), 0);
        Check.rowOf(x, 0, Check.INTS, -128);
        Check.due("not the least int", x.judge(0), 0);
        Check.rowOf(x, 0, Check.INTS, -32768);
        Check.due("not the least int", x.judge(0), 0);
        HillsLieDown y = new HillsLieDown();
        Check.bring(y, Check.WALKER, 0, 80, 2);
        y.turns(0, 1);
        Check.rowOf(y, 0, Check.BYTES, -128, -128, 0);
        Check.due("the DAYS skipped go by", y.judge(0), -4);
    }

    /** "0 .. 100 elements": up to 99 DAYS on. */
    private static void judgeOfFullRow() {
        HillsLieDown x = Check.slowCountry();
        HillsLieDown y = Check.slowCountry();
        x.row(0, Check.SHORTS, 100);
        int[] waters = new int[100];
        for (int i = 0; i < 100; i++) {
            waters[i] = y.water(-1);
            x.put(0, i, waters[i]);
            y.days(1);
        }
        Check.due("WATER still changes behind 60", waters[60] == waters[99] ? 1 : 0, 0);
        Check.due("100 elements", x.judge(0), -4);
        for (int i : new int[] {0, 1, 59, 60, 61, 98, 99}) {
            x.put(0, i, waters[i] + 1);
            Check.due("the first", x.judge(0), i);
            x.put(0, i, waters[i]);
        }
    }

    /** "n (1 .. 20)": "-1". */
    private static void countriesRanges() {
        HillsLieDown x = new HillsLieDown();
        x.raises(7, 4);
        Check.due("the least", x.countries(1, 0, 0), 1);
        Check.due("the greatest", x.countries(20, 0, 0), 20);
        Check.due("on the edge", x.countries(20, 0, 1), 0);
        Check.dueAll("no such n", -1, x.countries(0, 1, 0), x.countries(21, 1, 0), x.countries(-1, 1, 0),
            x.countries(MIN, 1, 0), x.countries(MAX, 1, 0));
        Check.dueAll("no such what", -1, x.countries(1, 1, -1), x.countries(1, 1, 2), x.countries(1, 1, MIN), x.countries(1, 1, MAX));
    }

    private static void countriesOfNobody() {
        HillsLieDown x = new HillsLieDown();
        for (int z : new int[] {0, 1, -1, MIN, MAX}) {
            Check.due("no WATER", x.countries(20, z, 0), 0);
            Check.due("nobody on the edge", x.countries(20, z, 1), 0);
        }
    }

    private long z;

    /** "z becomes z times 1103515245 plus 12345 (an int); (z without its sign's bit over 65536, cut) modulo n". */
    private int drawBelow(int n) {
        z = (z * 1103515245L + 12345L) % (1L << 32);
        if (z < 0) {
            z += 1L << 32;
        }
        return (int) (z % (1L << 31) / 65536 % n);
    }

    /** Hills and ones of some KINDS, among whom he who stays in his hole tells by WATER where he was put. */
    private static HillsLieDown settled(int many) {
        HillsLieDown x = new HillsLieDown();
        Check.heights(x, 20, 3, 9, 6, 12, 4, 15, 2, 11, 7, 18, 1, 8, 5, 17);
        int[] kinds = {Check.SLEEPER, Check.YOUNG, Check.AUNT, Check.WALKER, Check.TWIN, Check.RIDER};
        for (int w = 0; w < many; w++) {
            Check.bring(x, kinds[w], 9, 60 + 10 * w, 7);
        }
        return x;
    }

    /** The answers of countries(): drawn here, and lived through in a country of its own. */
    private static void countriesAre(HillsLieDown x, HillsLieDown y, int n, int seed) {
        ToldEdgesTest draws = new ToldEdgesTest();
        draws.z = seed;
        int water = 0;
        int onEdge = 0;
        int many = y.count(0);
        for (int i = 0; i < n; i++) {
            for (int w = 0; w < many; w++) {
                y.moves(w, draws.drawBelow(15));
                int way = draws.drawBelow(3) - 1;
                y.turns(w, way < 0 ? 1 : 2 * way);
            }
            water += y.days(10);
            for (int w = 0; w < many; w++) {
                int at = y.walker(w, 3);
                onEdge += at == 0 || at == 14 ? 1 : 0;
            }
        }
        Check.due("WATER of " + n + " by " + seed, x.countries(n, seed, 0), water);
        Check.due("on the edge of " + n + " by " + seed, x.countries(n, seed, 1), onEdge);
    }

    /** "AT of each, by numbers, a DRAW below 15, then his WAY a DRAW below 3 less 1, then 10 DAYS". */
    private static void countriesBySeeds() {
        for (int many = 1; many <= 6; many++) {
            for (int seed : new int[] {0, 1, 2, 3, 12345, 987654321}) {
                countriesAre(settled(many), settled(many), 1, seed);
                countriesAre(settled(many), settled(many), 20, seed);
            }
        }
        HillsLieDown x = settled(2);
        int first = x.countries(20, 5, 0);
        x.countries(3, 6, 0);
        Check.due("the same by the same seed", x.countries(20, 5, 0), first);
    }

    /** "(an int)", "z without its sign's bit": seeds at the ends, and below 0. */
    private static void countriesSeedWrapsAround() {
        for (int seed : new int[] {MAX, MIN, -1, -2, MAX - 1, MIN + 1, -987654321, 1 << 30, 1 << 16, -65536}) {
            countriesAre(settled(1), settled(1), 1, seed);
            countriesAre(settled(2), settled(2), 20, seed);
            countriesAre(settled(6), settled(6), 7, seed);
        }
    }

    /** "then 10 DAYS": on a flat road one put at 4 gets to 14 just so. */
    private static void countriesTenDays() {
        for (int seed = -40; seed < 40; seed++) {
            ToldEdgesTest draws = new ToldEdgesTest();
            draws.z = seed;
            int at = draws.drawBelow(15);
            int then = at + 10 * (draws.drawBelow(3) - 1);
            HillsLieDown x = new HillsLieDown();
            Check.bring(x, Check.WALKER, 0, 0, 7);
            Check.due("from " + at + " to " + then, x.countries(1, seed, 1), then <= 0 || then >= 14 ? 1 : 0);
        }
    }

    /** "each from now": what is now stays, however many are looked at. */
    private static void countriesChangeNothing() {
        HillsLieDown x = Check.slowCountry();
        x.days(3);
        x.image();
        x.days(1);
        String before = Check.seen(x);
        x.countries(20, 7, 0);
        x.countries(20, -7, 1);
        Check.rowOf(x, 0, Check.BYTES, 1, 2);
        x.forged(0);
        x.judge(0);
        Check.same("nothing changes", Check.seen(x), before);
        Check.due("the IMAGE is as it was", x.restore(), 3);
        HillsLieDown y = new HillsLieDown();
        Check.passDays(y, 999);
        Check.bring(y, Check.SLEEPER, 0, 60, 7);
        Check.due("on DAY 999, too", y.countries(20, 1, 0) / 2 + y.countries(20, 1, 1), 20);
        Check.due("DAY", y.count(1), 999);
    }

    /** "-3 there is none". */
    private static void imageThatWasNeverTaken() {
        HillsLieDown x = new HillsLieDown();
        Check.due("none", x.restore(), -3);
        Check.bring(x, Check.WALKER, 0, 60, 3);
        x.raises(3, 9);
        x.days(4);
        String before = Check.seen(x);
        Check.due("none", x.restore(), -3);
        Check.same("nothing changes", Check.seen(x), before);
        Check.due("the IMAGE is taken: DAY", x.image(), 4);
        Check.due("now there is one", x.restore(), 4);
    }

    /** "THE IMAGE: all that there is"; "RESTORED all is as it was then". */
    private static void imageOfAll() {
        HillsLieDown x = Check.slowCountry();
        x.days(5);
        String then = Check.seen(x);
        Check.due("DAY", x.image(), 5);
        Check.same("nothing changes", Check.seen(x), then);
        for (int cell = 0; cell < 15; cell++) {
            x.raises(cell, 20 - cell);
        }
        for (int w = 0; w < 6; w++) {
            x.moves(w, 2 * w);
            x.turns(w, (w + 1) % 3);
        }
        x.days(60);
        Check.due("there is a change", Check.seen(x).equals(then) ? 1 : 0, 0);
        Check.due("DAY", x.restore(), 5);
        Check.same("as it was then", Check.seen(x), then);
        Check.due("DAY as it was then", x.count(1), 5);
        // A second time, too: the IMAGE stays.
        x.moves(0, 3);
        x.days(1);
        Check.due("DAY", x.restore(), 5);
        Check.same("as it was then", Check.seen(x), then);
    }

    /** Taken again it is as it is now. */
    private static void imageTakenAgain() {
        HillsLieDown x = new HillsLieDown();
        x.image();
        Check.bring(x, Check.AUNT, 9, 120, 7);
        Check.passDays(x, 999);
        String then = Check.seen(x);
        Check.due("on DAY 999", x.image(), 999);
        Check.bring(x, Check.DEAD, 9, 120, 3);
        x.raises(14, 20);
        Check.due("DAY 999", x.restore(), 999);
        Check.same("as it was then", Check.seen(x), then);
        Check.due("no more DAYS", x.days(1), -3);
        Check.due("the next one", Check.bring(x, Check.YOUNG, 0, 0, 0), 1);
        Check.due("FIGURE", x.walker(1, 1), 0);
        Check.due("PRESSES", x.walker(1, 5), 0);
        Check.due("SPREADS", x.walker(1, 8), 0);
    }

    /** "when THE IMAGE is RESTORED, SHELVES stay as they are". */
    private static void imageLeavesShelves() {
        HillsLieDown x = new HillsLieDown();
        x.keep(0, 1, Check.AUNT, 9);
        Check.rowOf(x, 1, Check.BYTES, 1, 2, 3);
        x.keep(3, 1, Check.YOUNG, 1);
        x.image();
        Check.due("taken, they are as they were", x.cost(0), 24);
        x.keep(0, 0, 0, 0);
        x.put(1, 1, 9);
        x.row(3, Check.INTS, 2);
        x.keep(7, 1, Check.RIDER, 4);
        x.restore();
        Check.due("nothing", x.cost(0), -11);
        Check.due("put since", Check.elementOrThrown(x, 1, 1), 9);
        Check.due("as it was", Check.elementOrThrown(x, 1, 0), 1);
        Check.due("a ROW", x.put(3, 1, 5), 0);
        Check.due("a RIDER", x.cost(7), 7);
    }

    /** An IMAGE of a new object: RESTORED there is nobody, and it is DAY 0. */
    private static void imageOfNewObject() {
        HillsLieDown x = new HillsLieDown();
        String first = Check.seen(x);
        Check.due("DAY 0", x.image(), 0);
        for (int w = 0; w < 6; w++) {
            Check.bring(x, Check.DEAD, 9, 120, w);
        }
        x.days(60);
        Check.due("DAY 0", x.restore(), 0);
        Check.same("as at first", Check.seen(x), first);
        Check.due("there is room again", Check.bring(x, Check.WALKER, 0, 60, 7), 0);
        Check.due("GROUND", x.count(3), 75);
    }

    /** "-1 for others". */
    private static void countWhat() {
        HillsLieDown x = new HillsLieDown();
        int[] due = {0, 0, 75, 75, 0, 0};
        for (int what = 0; what < 6; what++) {
            Check.due("count(" + what + ")", x.count(what), due[what]);
        }
        Check.dueAll("others", -1, x.count(-1), x.count(6), x.count(MIN), x.count(MAX));
    }

    /** Each from its least to its greatest. */
    private static void countEdges() {
        HillsLieDown x = Check.flat(20);
        Check.due("all HEIGHT", x.count(2), 300);
        Check.due("all GROUND", x.count(3), 300);
        for (int w = 0; w < 6; w++) {
            Check.bring(x, Check.DEAD, 0, 120, 2 + 2 * w);
            Check.due("WALKERS", x.count(0), w + 1);
            x.turns(w, w % 2 + 1);
            Check.due("who has a WAY", x.count(4), (2 << w) - 1);
        }
        Check.due("all HEIGHT is as it was", x.count(2), 300);
        for (int w = 0; w < 6; w++) {
            x.turns(w, 0);
            Check.due("who has a WAY", x.count(4), 63 - ((2 << w) - 1));
        }
        Check.passDays(x, 999);
        Check.due("DAY", x.count(1), 999);
        HillsLieDown y = Check.flat(0);
        Check.due("all HEIGHT", y.count(2), 0);
        Check.due("all GROUND", y.count(3), 0);
        Check.bring(y, Check.DEAD, 0, 120, 7);
        Check.due("all GROUND, 0 at least", y.count(3), 0);
        y.raises(0, 1);
        y.raises(14, 1);
        Check.due("CELLS with WATER: all but those on the edge", y.count(5), (1 << 14) - 2);
        y.raises(1, 1);
        Check.due("CELLS with WATER", y.count(5), (1 << 14) - 4);
    }
}
