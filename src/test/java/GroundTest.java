/** Promises 10 to 18: the ground. */
public final class GroundTest {
    private static final int[] OUTSIDE = {15, -2, Integer.MIN_VALUE, Integer.MAX_VALUE};

    public static void main(String[] args) {
        ground();
        water();
        lakes();
        rise();
        steepest();
        behind();
        groundThen();
        arrives();
        stuck();
        Check.end("GroundTest");
    }

    private static void ground() {
        HillsLieDown x = new HillsLieDown();
        Check.heights(x, 20, 20, 20, 20, 20, 20, 20, 20, 20, 20, 20, 20, 20, 20, 20);
        // A DEAD one of 80: twice (2 and 2) is 8; 7 beside, 6 beyond.
        Check.bring(x, Check.DEAD, 0, 80, 0);
        groundIs(x, 12, 13, 14, 20, 20);
        x.moves(0, 2);
        groundIs(x, 14, 13, 12, 13, 14, 20);
        // An AUNT of 90 with 3: 2 and 1 is 3, 2, 1. A RIDER of 80: 1; beside 0.
        Check.bring(x, Check.AUNT, 3, 90, 3);
        groundIs(x, 14, 12, 10, 10, 12, 19, 20);
        Check.bring(x, Check.RIDER, 0, 80, 9);
        Check.due("beside", x.ground(8), 20);
        Check.due("under him", x.ground(9), 19);
        Check.due("0 at least", 20 - x.ground(10), 0);
        x.raises(2, 5);
        Check.due("0 at least", x.ground(2), 0);
        Check.due("not below 0 beside", x.ground(3), 10);
        for (int cell : OUTSIDE) {
            Check.due("ground", x.ground(cell), -1);
        }
        Check.due("ground", x.ground(-1), -1);
        // Who PRESSES less than it is away does not lift the ground there.
        HillsLieDown y = new HillsLieDown();
        Check.bring(y, Check.AUNT, 3, 0, 7);
        Check.due("under her", y.ground(7), 4);
        Check.dueAll("beside", 5, y.ground(5), y.ground(6), y.ground(8), y.ground(9));
    }

    private static void groundIs(HillsLieDown x, int... levels) {
        for (int cell = 0; cell < levels.length; cell++) {
            Check.due("ground(" + cell + ")", x.ground(cell), levels[cell]);
        }
    }

    private static void water() {
        HillsLieDown x = new HillsLieDown();
        Check.heights(x, 0, 4, 1, 2, 7, 3, 0, 6, 5, 5, 8, 1, 1, 1, 1);
        int[] waters = {0, 0, 3, 2, 0, 4, 7, 1, 2, 2, 0, 0, 0, 0, 0};
        int all = 0;
        for (int cell = 0; cell < 15; cell++) {
            Check.due("water(" + cell + ")", x.water(cell), waters[cell]);
            all += waters[cell];
        }
        Check.due("water(-1)", x.water(-1), all);
        for (int cell : OUTSIDE) {
            Check.due("water", x.water(cell), -1);
        }
        // On the edge there is none, however low it is.
        HillsLieDown y = new HillsLieDown();
        y.raises(0, 0);
        y.raises(14, 0);
        y.raises(1, 9);
        Check.dueAll("on the edge", 0, y.water(0), y.water(14), y.water(-1));
        Check.bring(y, Check.WALKER, 0, 100, 7);
        Check.due("water beside one of 4", y.water(7), 4);
    }

    private static void lakes() {
        HillsLieDown x = new HillsLieDown();
        Check.due("none", x.lakes(), 0);
        Check.heights(x, 5, 0, 5, 0, 5, 0, 0, 0, 5, 0, 5, 0, 5, 0, 5);
        Check.due("six", x.lakes(), 6);
        Check.due("cells", x.count(5), 0b10101011101010);
        x.raises(2, 4);
        Check.due("one of them greater", x.lakes(), 5);
        x.raises(13, 9);
        Check.due("none at 13, so 14 holds none either", x.lakes(), 4);
        x.raises(14, 20);
        Check.due("lakes", x.lakes(), 4);
    }

    private static void rise() {
        HillsLieDown x = new HillsLieDown();
        Check.heights(x, 0, 20, 0);
        Check.due("rise", x.rise(0), 20);
        Check.due("rise", x.rise(1), -20);
        Check.due("rise", x.rise(2), 5);
        Check.due("rise", x.rise(13), 0);
        x.raises(14, 4);
        Check.due("-1 is no refusal here", x.rise(13), -1);
        Check.dueAll("rise", Check.TOLD_NO_SUCH, x.rise(14), x.rise(-1), x.rise(15),
            x.rise(Integer.MAX_VALUE), x.rise(Integer.MIN_VALUE));
        Check.bring(x, Check.WALKER, 0, 80, 1);
        Check.due("by GROUND", x.rise(0), 18);
    }

    private static void steepest() {
        HillsLieDown x = new HillsLieDown();
        Check.dueAll("all flat", 0, x.steepest(0), x.steepest(1), x.steepest(2), x.steepest(3));
        Check.heights(x, 1, 4, 8, 4, 8, 10, 13, 15, 12, 10, 14, 11, 14, 11, 8);
        // 3 4 4 4 2 3 2 3 2 4 3 3 3 3
        Check.due("the first of four", x.steepest(0), 1);
        Check.due("that", x.steepest(1), 4);
        Check.due("the first of three", x.steepest(2), 4);
        Check.due("that", x.steepest(3), 2);
        x.raises(0, 3);
        Check.due("the first CELL is flattest", x.steepest(2), 0);
        x.raises(0, 1);
        x.raises(14, 10);
        Check.due("the last CELL is flattest", x.steepest(2), 13);
        Check.due("that", x.steepest(3), 1);
        x.raises(2, 4);
        Check.due("the second", x.steepest(2), 1);
        x.raises(2, 8);
        x.raises(14, 1);
        Check.due("down counts too", x.steepest(0), 13);
        Check.due("that, not below 0", x.steepest(1), 10);
        Check.bring(x, Check.WALKER, 0, 120, 14);
        Check.due("by GROUND", x.steepest(1), 11);
        Check.dueAll("no such what", -1, x.steepest(-1), x.steepest(4), x.steepest(Integer.MIN_VALUE));
    }

    private static void behind() {
        HillsLieDown x = new HillsLieDown();
        Check.due("nobody", x.behind(0, 0), -1);
        Check.bring(x, Check.WALKER, 0, 60, 10);
        x.turns(0, 2);
        for (int n = 0; n <= 60; n++) {
            Check.due("behind " + n, x.behind(0, n), n < 4 ? 10 + n : 14);
        }
        Check.dueAll("behind", -1, x.behind(0, -1), x.behind(0, 61), x.behind(1, 0), x.behind(-1, 0));
        Check.due("only in mind", x.walker(0, 3), 10);
        Check.due("only in mind", x.walker(0, 4), 2);
        Check.due("only in mind", x.count(1), 0);
        for (int i = 0; i < 16; i++) {
            x.days(60);
        }
        x.turns(0, 1);
        Check.due("DAY may pass 999", x.behind(0, 60), 0);
        Check.due("day", x.count(1), 960);
    }

    private static void groundThen() {
        HillsLieDown x = new HillsLieDown();
        Check.bring(x, Check.WALKER, 0, 70, 2);
        x.turns(0, 1);
        int[] levels1 = {5, 4, 5, 5};
        int[] levels2 = {4, 5, 5, 5};
        int[] waters = {1, 1, 0, 0};
        for (int n = 0; n < 4; n++) {
            Check.due("ground of 1 behind " + n, x.groundThen(1, n), levels1[n]);
            Check.due("ground of 2 behind " + n, x.groundThen(2, n), n == 0 ? 4 : 5);
            Check.due("all water behind " + n, x.groundThen(-1, n), waters[n]);
        }
        for (int n = 2; n <= 60; n++) {
            Check.due("ground of 0 behind " + n, x.groundThen(0, n), levels2[0]);
        }
        Check.dueAll("groundThen", -1, x.groundThen(-2, 0), x.groundThen(15, 0), x.groundThen(0, -1),
            x.groundThen(0, 61), x.groundThen(-1, 61));
        Check.due("only in mind", x.walker(0, 3), 2);
    }

    private static void arrives() {
        HillsLieDown x = new HillsLieDown();
        Check.due("nobody", x.arrives(0, 0), -1);
        Check.bring(x, Check.WALKER, 0, 60, 3);
        Check.due("he is there", x.arrives(0, 3), 0);
        Check.due("he stays", x.arrives(0, 4), -4);
        x.turns(0, 2);
        Check.due("arrives", x.arrives(0, 14), 11);
        Check.due("not behind him", x.arrives(0, 2), -4);
        x.raises(9, 20);
        Check.due("arrives", x.arrives(0, 8), 5);
        Check.due("too high", x.arrives(0, 9), -4);
        Check.dueAll("arrives", -1, x.arrives(-1, 0), x.arrives(1, 0), x.arrives(0, -1), x.arrives(0, 15));
        // A DEAD one PRESSES 16: the hill of 18 is 2, and 0 ahead of it.
        x.raises(9, 18);
        Check.due("too high", x.arrives(0, 9), -4);
        Check.bring(x, Check.DEAD, 0, 120, 9);
        Check.due("the hill lies down", x.arrives(0, 9), 6);
    }

    private static void stuck() {
        HillsLieDown x = new HillsLieDown();
        Check.dueAll("nobody", -1, x.stuck(0), x.stuck(-1));
        Check.bring(x, Check.WALKER, 0, 60, 3);
        Check.due("he has no WAY", x.stuck(0), 0);
        x.turns(0, 2);
        Check.due("on the edge", x.stuck(0), 11);
        x.raises(7, 8);
        Check.due("ahead of the hill", x.stuck(0), 3);
        Check.due("no such one", x.stuck(1), -1);
        // Two on one WAY: the lesser one waits for the other to go, and is stuck at once.
        HillsLieDown y = new HillsLieDown();
        Check.bring(y, Check.WALKER, 0, 60, 3);
        Check.bring(y, Check.WALKER, 0, 100, 3);
        y.turns(0, 2);
        Check.due("the hole is too deep", y.stuck(0), 0);
        y.turns(1, 2);
        Check.due("the other one is too", y.stuck(1), 0);
        Check.due("in mind only", y.count(1), 0);
    }
}
