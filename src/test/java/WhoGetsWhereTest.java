/** Promises 19 to 27: who gets where. */
public final class WhoGetsWhereTest {
    public static void main(String[] args) {
        goes();
        far();
        company();
        hire();
        sit();
        apart();
        keeps();
        even();
        order();
        Check.end("WhoGetsWhereTest");
    }

    private static void goes() {
        HillsLieDown x = new HillsLieDown();
        Check.due("nobody", x.goes(0, 0), -1);
        Check.heights(x, 5, 6, 8, 10, 12, 14, 17, 5, 5, 5, 8);
        Check.bring(x, Check.WALKER, 0, 69, 3);
        int[] gets = {1, 1, 1, 1, 1, 1, 0, 0, 0, 0, 0, 0, 0, 0, 0};
        for (int cell = 0; cell < 15; cell++) {
            Check.due("goes to " + cell, x.goes(0, cell), gets[cell]);
        }
        x.moves(0, 8);
        Check.due("he is there", x.goes(0, 8), 1);
        Check.due("not up by 3", x.goes(0, 10), 0);
        Check.dueAll("goes", -1, x.goes(-1, 0), x.goes(1, 0), x.goes(0, -1), x.goes(0, 15));
        // He PRESSES as he goes: one of 70 stands 1 lower, one of 80 is 2 lower in each CELL.
        HillsLieDown y = new HillsLieDown();
        Check.heights(y, 5, 6, 7, 9);
        Check.bring(y, Check.WALKER, 0, 70, 0);
        Check.due("1 up is 2 up for him", y.goes(0, 2), 1);
        Check.due("2 up is 3 up for him", y.goes(0, 3), 0);
        Check.due("his place is as it was", y.walker(0, 3), 0);
        // Others stay, and the ground lies down under them: an AUNT at 3 takes 1 from 2 .. 4.
        Check.bring(y, Check.AUNT, 6, 80, 3);
        Check.due("where another one is it is lower", y.goes(0, 3), 1);
        // The others stay where they are: 0 makes no hill lower for 1.
        HillsLieDown z = new HillsLieDown();
        z.raises(6, 9);
        Check.bring(z, Check.AUNT, 9, 120, 0);
        Check.bring(z, Check.WALKER, 0, 60, 5);
        Check.due("alone he does not get there", z.goes(1, 6), 0);
    }

    private static void far() {
        HillsLieDown x = new HillsLieDown();
        Check.due("nobody", x.far(0, 0), -1);
        Check.heights(x, 5, 9, 5, 5, 5, 5, 5, 5, 5, 5, 5, 5, 5, 8);
        Check.bring(x, Check.TWIN, 0, 0, 5);
        // A TWIN of 0 PRESSES 1, so 3 up is 4 up for him.
        Check.due("greatest", x.far(0, 0), 12);
        Check.due("he stays where he is", x.walker(0, 3), 5);
        Check.due("least", x.far(0, 1), 2);
        Check.due("he stays where he is", x.walker(0, 3), 5);
        x.raises(13, 7);
        x.raises(1, 7);
        Check.due("greatest", x.far(0, 0), 14);
        Check.due("least", x.far(0, 1), 0);
        Check.dueAll("far", -1, x.far(0, -1), x.far(0, 2), x.far(1, 0), x.far(-1, 0));
        Check.bring(x, Check.SLEEPER, 0, 0, 14);
        Check.due("he is on the edge", x.far(1, 0), 14);
        Check.due("down he does not go: it is 7 there", x.far(1, 1), 14);
    }

    private static void company() {
        HillsLieDown x = new HillsLieDown();
        Check.due("nobody", x.company(0, 0), -1);
        // A hill of 8 at 6; an AUNT along takes 3 from her CELL and 2 beside it: 1 less to rise.
        x.raises(6, 8);
        Check.bring(x, Check.WALKER, 0, 60, 5);
        Check.due("nobody to go along", x.company(0, 6), -4);
        Check.due("he is there", x.company(0, 5), 0);
        Check.due("he gets there alone", x.company(0, 4), 0);
        Check.bring(x, Check.WALKER, 0, 60, 0);
        Check.due("one who does not PRESS makes it no better", x.company(0, 6), -4);
        Check.bring(x, Check.AUNT, 9, 60, 0);
        Check.due("by his own STRIDE he is 3 up still", x.company(0, 6), -4);
        x.raises(6, 7);
        Check.due("alone", x.company(0, 6), 0);
        // With GROUND 0 about them the hole has an end: 5 less 5, and the hill of 6 less 4.
        HillsLieDown y = new HillsLieDown();
        y.raises(6, 8);
        Check.bring(y, Check.WALKER, 0, 60, 5);
        Check.bring(y, Check.AUNT, 0, 120, 14);
        Check.bring(y, Check.AUNT, 3, 120, 13);
        Check.bring(y, Check.AUNT, 6, 120, 0);
        Check.bring(y, Check.AUNT, 6, 120, 1);
        // Alone 3 up. With 1: 5 less 5 is 0, 8 less 4 is 4. With 2: 0, 8 less 5. With 3: 0, 8 less 6.
        Check.due("the least of those alone", y.company(0, 6), 8);
        y.raises(6, 9);
        // 3 up with one of 7; two: 5 and 6 beside take 9 in all (4 and 5): 0 up.
        Check.due("two, the least bits of several", y.company(0, 6), 6);
        Check.dueAll("company", -1, y.company(-1, 0), y.company(5, 0), y.company(0, -1), y.company(0, 15));
        Check.due("as it was", y.walker(1, 3), 14);
        // All five others: each takes 2 from beside it, the ground is 0 about: 12 less 10.
        HillsLieDown z = new HillsLieDown();
        z.raises(6, 12);
        for (int w = 0; w < 5; w++) {
            Check.bring(z, Check.AUNT, 9, 0, w);
        }
        Check.bring(z, Check.WALKER, 0, 60, 5);
        Check.due("all the others", z.company(5, 6), 31);
        z.raises(6, 13);
        Check.due("not even all the others", z.company(5, 6), -4);
    }

    private static void hire() {
        HillsLieDown x = new HillsLieDown();
        Check.due("nobody", x.hire(0, 0, 0), -1);
        x.raises(6, 9);
        Check.bring(x, Check.WALKER, 0, 60, 5);
        Check.dueAll("none", -4, x.hire(0, 6, 0), x.hire(0, 6, 1));
        Check.dueAll("alone", 0, x.hire(0, 5, 0), x.hire(0, 5, 1), x.hire(0, 0, 0), x.hire(0, 0, 1));
        // Just one that PRESSES 8 (7 beside: 9 less 7) is company enough, and shows 120: PAY 13.
        Check.bring(x, Check.AUNT, 9, 120, 0);
        Check.due("company", x.company(0, 6), 2);
        Check.due("bits", x.hire(0, 6, 0), 2);
        Check.due("PAY", x.hire(0, 6, 1), 13);
        // Two AUNTS of 9 years with 9 PRESS 3 each, 2 beside; three take 9 from 5 and 6 from 9: 3 up.
        Check.bring(x, Check.AUNT, 9, 9, 14);
        Check.bring(x, Check.AUNT, 9, 0, 14);
        Check.bring(x, Check.AUNT, 9, 9, 14);
        Check.due("three are not enough", x.hire(0, 6, 1), 13);
        Check.bring(x, Check.AUNT, 9, 9, 14);
        Check.due("four of PAY 1 are", x.hire(0, 6, 0), 4 + 8 + 16 + 32);
        Check.due("PAY", x.hire(0, 6, 1), 4);
        Check.due("the fewest is one", x.company(0, 6), 2);
        x.raises(6, 8);
        Check.due("three of four, the least bits", x.hire(0, 6, 0), 4 + 8 + 16);
        Check.due("PAY", x.hire(0, 6, 1), 3);
        // 0 goes along with 1, and is paid: a HIDER shows less than his AGE.
        HillsLieDown y = new HillsLieDown();
        y.raises(6, 8);
        Check.bring(y, Check.AUNT, 9, 119, 0);
        Check.bring(y, Check.WALKER, 0, 60, 5);
        Check.due("bits", y.hire(1, 6, 0), 1);
        Check.due("PAY", y.hire(1, 6, 1), 12);
        HillsLieDown z = new HillsLieDown();
        z.raises(6, 8);
        Check.bring(z, Check.HIDER, 0, 90, 0);
        Check.bring(z, Check.WALKER, 0, 60, 5);
        // A HIDER of 90 PRESSES 3 in his CELL alone: that makes it worse.
        Check.due("none", z.hire(1, 6, 1), -4);
        z.raises(5, 1);
        z.raises(6, 3);
        Check.due("alone", z.hire(1, 6, 1), 0);
        Check.dueAll("hire", -1, x.hire(-1, 0, 0), x.hire(6, 0, 0), x.hire(0, -1, 0), x.hire(0, 15, 0),
            x.hire(0, 0, -1), x.hire(0, 0, 2));
    }

    private static void sit() {
        HillsLieDown x = new HillsLieDown();
        Check.due("nobody", x.sit(0, 0), -1);
        Check.bring(x, Check.WALKER, 0, 80, 7);
        Check.due("on the edge there is no WATER", x.sit(0, 0), 0);
        Check.due("WATER", x.sit(0, 1), 0);
        // A mine of 3 CELLS behind a dam at 4: upon the dam he lets 2 of each out.
        Check.heights(x, 5, 0, 0, 0, 5, 0, 0, 0, 0, 0, 0, 0, 0, 0, 0);
        Check.due("over the dam", x.sit(0, 0), 0);
        Check.due("WATER", x.sit(0, 1), 9);
        x.raises(0, 9);
        Check.due("over the dam, as 0 is higher", x.sit(0, 0), 4);
        Check.due("WATER", x.sit(0, 1), 9);
        Check.due("he stays where he is", x.walker(0, 3), 7);
        Check.dueAll("sit", -1, x.sit(-1, 0), x.sit(1, 0), x.sit(0, -1), x.sit(0, 2));
    }

    private static void apart() {
        HillsLieDown x = new HillsLieDown();
        Check.due("nobody", x.apart(0), 0);
        Check.due("nobody", x.apart(1), -4);
        Check.bring(x, Check.WALKER, 0, 80, 0);
        Check.bring(x, Check.WALKER, 0, 80, 5);
        Check.bring(x, Check.WALKER, 0, 80, 14);
        // Now there are 2 at 5. 0 and 1 at 0: none; 0 and 2 at 0: 2; 1 and 2 at 5: 4.
        Check.due("twos", x.apart(0), 1);
        Check.due("the first", x.apart(1), 12);
        x.moves(0, 3);
        // Now 2 at 3 and 2 at 5. 0 and 1 at 3: 4; 0 and 2 at 3: 4 and 2; 1 and 2 at 5: 2 and 4.
        Check.due("twos", x.apart(0), 2);
        Check.due("the first", x.apart(1), 2);
        Check.dueAll("apart", -1, x.apart(-1), x.apart(2));
        Check.due("all as it was", x.walker(0, 3) + 100 * x.walker(1, 3) + 10000 * x.walker(2, 3), 140503);
    }

    private static void keeps() {
        HillsLieDown x = new HillsLieDown();
        Check.due("nobody", x.keeps(), 0);
        Check.bring(x, Check.WALKER, 0, 80, 3);
        Check.due("he makes a lake", x.keeps(), 0);
        Check.bring(x, Check.WALKER, 0, 80, 0);
        Check.bring(x, Check.WALKER, 0, 69, 7);
        Check.bring(x, Check.WALKER, 0, 70, 7);
        Check.due("those who make none", x.keeps(), 2 + 4);
        x.raises(3, 7);
        Check.due("he is on a hill", x.keeps(), 1 + 2 + 4);
        x.raises(7, 4);
        x.raises(3, 5);
        Check.due("a lake without any", x.keeps(), -4);
        Check.bring(x, Check.DEAD, 0, 120, 13);
        // 16 at 13, 15 at 12, 14 and 14 at 11: the right side is 0 from 11 on; 7 has 5 at 8 .. 10.
        Check.due("still a lake", x.keeps(), -4);
        x.raises(8, 0);
        x.raises(9, 0);
        x.raises(10, 0);
        Check.due("with him there is none", x.keeps(), 2 + 4 + 8 + 16);
        HillsLieDown y = new HillsLieDown();
        Check.bring(y, Check.WALKER, 0, 70, 3);
        Check.bring(y, Check.WALKER, 0, 70, 3);
        y.raises(3, 6);
        Check.due("either of two, the least bits", y.keeps(), 1);
    }

    private static void even() {
        HillsLieDown x = new HillsLieDown();
        Check.due("nobody", x.even(), -4);
        x.raises(6, 9);
        Check.due("nobody", x.even(), -4);
        Check.bring(x, Check.WALKER, 0, 60, 0);
        Check.due("he does not PRESS", x.even(), -4);
        Check.bring(x, Check.WALKER, 0, 80, 6);
        // Now the hill is 7: a RISE of 2. At 6 he is, so no better.
        Check.due("he is there", x.even(), -4);
        x.moves(1, 0);
        Check.due("4 becomes 2", x.even(), 106);
        Check.bring(x, Check.WALKER, 0, 80, 3);
        Check.due("the first of several", x.even(), 106);
        x.moves(1, 6);
        x.moves(2, 7);
        // Now 7 over 3 at the right: 4. 2 upon the hill too makes 5; away (at 0) 2.
        Check.due("both on the hill", x.even(), 206);
        Check.due("all as it was", x.walker(2, 3), 7);
        HillsLieDown y = new HillsLieDown();
        y.raises(0, 9);
        Check.bring(y, Check.WALKER, 0, 80, 0);
        Check.due("he is there", y.even(), -4);
        y.moves(0, 7);
        Check.due("the first of all", y.even(), 0);
        y.raises(0, 5);
        y.raises(14, 9);
        Check.due("the last CELL", y.even(), 14);
    }

    private static void order() {
        HillsLieDown x = new HillsLieDown();
        Check.dueAll("nobody", -4, x.order(0), x.order(1));
        Check.dueAll("no such what", -1, x.order(-1), x.order(2));
        Check.heights(x, 5, 6, 8, 11, 20);
        Check.bring(x, Check.SLEEPER, 0, 0, 14);
        Check.due("who", x.order(0), 0);
        Check.due("how far", x.order(1), 0);
        Check.bring(x, Check.RIDER, 0, 0, 13);
        Check.due("who", x.order(0), 1);
        Check.due("how far", x.order(1), 1);
        Check.bring(x, Check.YOUNG, 0, 0, 12);
        Check.bring(x, Check.YOUNG, 9, 0, 11);
        Check.due("the least of two", x.order(0), 2);
        Check.due("how far", x.order(1), 3);
        x.raises(4, 17);
        Check.due("who", x.order(0), 3);
        Check.due("how far", x.order(1), 14);
        Check.due("all as it was", x.walker(3, 3), 11);
    }
}
