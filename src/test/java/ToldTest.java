/** Promises 34 to 39: told profiles, countries by seeds, the image, what is told. */
public final class ToldTest {
    private static final int[] OUTSIDE_SHELVES = {-1, 8, Integer.MIN_VALUE, Integer.MAX_VALUE};

    public static void main(String[] args) {
        forged();
        judge();
        refusals();
        countries();
        image();
        count();
        Check.end("ToldTest");
    }

    private static void forged() {
        HillsLieDown x = new HillsLieDown();
        Check.bring(x, Check.WALKER, 0, 80, 2);
        Check.rowOf(x, 0, Check.BYTES);
        Check.due("of nothing", x.forged(0), -4);
        Check.rowOf(x, 0, Check.BYTES, 5, 5, 3, 5);
        Check.due("all so", x.forged(0), -4);
        Check.rowOf(x, 0, Check.SHORTS, 5, 5, 5, 4);
        Check.due("the first", x.forged(0), 2);
        Check.rowOf(x, 0, Check.BYTES, -128, 5);
        Check.due("nothing is skipped here", x.forged(0), 0);
        Check.rowOf(x, 0, Check.INTS, 5, 5, 3, 5, 5, 5, 5, 5, 5, 5, 5, 5, 5, 5, 5);
        Check.due("all CELLS", x.forged(0), -4);
        Check.rowOf(x, 0, Check.INTS, 5, 5, 3, 5, 5, 5, 5, 5, 5, 5, 5, 5, 5, 5, 5, 5, 5);
        Check.due("no such CELL", x.forged(0), 15);
        x.put(0, 14, 6);
        Check.due("the last CELL", x.forged(0), 14);
    }

    private static void judge() {
        HillsLieDown x = new HillsLieDown();
        Check.bring(x, Check.WALKER, 0, 80, 2);
        x.turns(0, 1);
        Check.rowOf(x, 0, Check.BYTES);
        Check.due("of nothing", x.judge(0), -4);
        // 2 at 2, 2 at 1, at the edge none.
        Check.rowOf(x, 0, Check.BYTES, 2, 2, 0, 0, 0);
        Check.due("all so", x.judge(0), -4);
        Check.rowOf(x, 0, Check.BYTES, 2, 2, 2, 0, 1);
        Check.due("the first", x.judge(0), 2);
        Check.rowOf(x, 0, Check.BYTES, -128, 2, -128, 0, 1);
        Check.due("skipped", x.judge(0), 4);
        Check.rowOf(x, 0, Check.SHORTS, -32768, 2, -128, 0, 1);
        Check.due("skipped likewise", x.judge(0), 2);
        Check.rowOf(x, 0, Check.INTS, Integer.MIN_VALUE, 2, -32768, 0, 1);
        Check.due("skipped likewise", x.judge(0), 2);
        Check.due("row", x.row(0, Check.INTS, 100), 0);
        x.put(0, 0, 2);
        x.put(0, 1, 2);
        Check.due("99 DAYS", x.judge(0), -4);
        x.put(0, 99, 1);
        Check.due("the last DAY", x.judge(0), 99);
        Check.due("only in mind", x.walker(0, 3), 2);
        Check.due("only in mind", x.count(1), 0);
    }

    private static void refusals() {
        HillsLieDown x = new HillsLieDown();
        for (int d : OUTSIDE_SHELVES) {
            Check.dueAll("no such shelf", -1, x.forged(d), x.judge(d));
        }
        Check.dueAll("nothing", -11, x.forged(0), x.judge(0));
        x.keep(0, 1, 0, 0);
        Check.dueAll("no ROW", -12, x.forged(0), x.judge(0));
    }

    private static void countries() {
        HillsLieDown x = new HillsLieDown();
        x.raises(3, 9);
        x.raises(6, 9);
        Check.due("the same each time", x.countries(20, 7, 0), 160);
        Check.due("nobody is on the edge", x.countries(20, 7, 1), 0);
        // Flat, and a YOUNG one goes where he wants: on the edge, if he has the DAYS to get there.
        for (int z : new int[] {0, 1, -1, 12345, Integer.MAX_VALUE, Integer.MIN_VALUE, -987654321}) {
            HillsLieDown y = new HillsLieDown();
            Check.bring(y, Check.YOUNG, 0, 10, 3);
            Check.bring(y, Check.YOUNG, 0, 10, 3);
            y.turns(1, 2);
            int drawn = z;
            int onEdge = 0;
            for (int i = 0; i < 40; i++) {
                drawn = next(drawn);
                int at = drawBelow(drawn, 15);
                drawn = next(drawn);
                int way = drawBelow(drawn, 3) - 1;
                int then = Math.max(0, Math.min(14, at + 10 * way));
                onEdge += then == 0 || then == 14 ? 1 : 0;
            }
            Check.due("on the edge", y.countries(20, z, 1), onEdge);
            Check.due("no WATER", y.countries(20, z, 0), 0);
            Check.due("as it was", y.walker(0, 3) + 100 * y.walker(1, 4), 203);
            Check.due("as it was", y.count(1), 0);
        }
        // One of 80 climbs 2 out of his hole; WATER stands over him but on the edge.
        HillsLieDown y = new HillsLieDown();
        Check.bring(y, Check.WALKER, 0, 80, 3);
        for (int z = 0; z < 9; z++) {
            Check.due("one", y.countries(1, z, 0) / 2 + y.countries(1, z, 1), 1);
            Check.due("twenty", y.countries(20, z, 0) / 2 + y.countries(20, z, 1), 20);
        }
        Check.dueAll("countries", -1, x.countries(0, 1, 0), x.countries(21, 1, 0), x.countries(-1, 1, 0),
            x.countries(1, 1, -1), x.countries(1, 1, 2));
    }

    private static int next(int z) {
        return (int) (z * 1103515245L + 12345L);
    }

    private static int drawBelow(int z, int n) {
        return (z & Integer.MAX_VALUE) / 65536 % n;
    }

    private static void image() {
        HillsLieDown x = new HillsLieDown();
        Check.due("there is none", x.restore(), -3);
        Check.due("image", x.image(), 0);
        Check.bring(x, Check.AUNT, 4, 99, 3);
        x.turns(0, 2);
        x.raises(9, 12);
        x.days(2);
        Check.due("restore", x.restore(), 0);
        Check.due("nobody", x.count(0), 0);
        Check.due("height", x.height(9), 5);
        Check.due("SHELVES stay", x.cost(7), 14);
        Check.bring(x, Check.AUNT, 4, 99, 3);
        Check.bring(x, Check.TWIN, 5, 70, 8);
        x.turns(0, 2);
        x.turns(1, 1);
        x.raises(9, 12);
        x.days(5);
        Check.due("image", x.image(), 5);
        int at0 = x.walker(0, 3);
        int at1 = x.walker(1, 3);
        x.keep(7, 1, Check.DEAD, 0);
        Check.due("comes", x.comes(7, 120, 7), 2);
        x.moves(0, 0);
        x.moves(1, 0);
        x.turns(0, 0);
        x.raises(9, 0);
        x.days(60);
        for (int again = 0; again < 2; again++) {
            Check.due("restore", x.restore(), 5);
            Check.due("walkers", x.count(0), 2);
            Check.due("day", x.count(1), 5);
            Check.due("height", x.height(9), 12);
            Check.due("kind", x.walker(0, 0), Check.AUNT);
            Check.due("figure", x.walker(1, 1), 5);
            Check.due("age", x.walker(0, 2), 99);
            Check.due("at", x.walker(0, 3), at0);
            Check.due("at", x.walker(1, 3), at1);
            Check.due("way", x.walker(0, 4), 2);
            Check.due("presses", x.walker(1, 5), 2);
            Check.due("SHELVES stay", x.cost(7), 9);
            x.days(3);
            x.moves(0, 14);
        }
    }

    private static void count() {
        HillsLieDown x = new HillsLieDown();
        int[] first = {0, 0, 75, 75, 0, 0};
        for (int what = 0; what < 6; what++) {
            Check.due("count", x.count(what), first[what]);
        }
        Check.bring(x, Check.WALKER, 0, 80, 3);
        Check.bring(x, Check.WALKER, 0, 80, 5);
        Check.bring(x, Check.DEAD, 0, 0, 0);
        x.raises(9, 20);
        x.turns(2, 1);
        x.turns(0, 2);
        x.moves(0, 8);
        int[] then = {3, 0, 90, 86, 0b101, 1 << 8 | 1 << 5};
        for (int what = 0; what < 6; what++) {
            Check.due("count", x.count(what), then[what]);
        }
        x.days(1);
        Check.due("WAY of the one on the edge", x.count(4), 1);
        Check.due("day", x.count(1), 1);
        Check.dueAll("count", -1, x.count(-1), x.count(6), x.count(Integer.MIN_VALUE), x.count(Integer.MAX_VALUE));
    }
}
