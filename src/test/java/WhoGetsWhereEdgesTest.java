/** Promises 19 to 27, edge by edge: each method stands for a sentence that names a boundary. */
public final class WhoGetsWhereEdgesTest {
    private static final int MIN = Integer.MIN_VALUE;
    private static final int MAX = Integer.MAX_VALUE;

    public static void main(String[] args) {
        goesRanges();
        goesHeIsThere();
        goesByHisStride();
        goesCellByCell();
        goesOthersStaying();
        goesPressingAsHeGoes();
        farRanges();
        farEdges();
        companyRanges();
        companyOfNobody();
        companyFewestAndLeast();
        companyAllTheWay();
        hireRanges();
        hireNobodyAndNone();
        hirePayByShows();
        hireOfSeveralTheLeast();
        sitRanges();
        sitOfSeveralTheLeast();
        sitOnTheEdges();
        apartRanges();
        apartOfFew();
        apartMoreThanNow();
        apartFirstAndLast();
        apartInTheLesserCell();
        keepsNobodyAndAll();
        keepsNone();
        keepsOfSeveralTheLeast();
        evenNone();
        evenLessThanNow();
        evenFirstAndLast();
        orderRanges();
        orderNone();
        orderOfSeveralTheLeast();
        orderEdges();
        askingChangesNothing();
        Check.end("WhoGetsWhereEdgesTest");
    }

    /** "-1". */
    private static void goesRanges() {
        HillsLieDown x = new HillsLieDown();
        Check.due("nobody", x.goes(0, 0), -1);
        for (int w = 0; w < 6; w++) {
            Check.bring(x, Check.WALKER, 0, 60, 7);
        }
        Check.due("the first one, to the first CELL", x.goes(0, 0), 1);
        Check.due("the last one, to the last CELL", x.goes(5, 14), 1);
        Check.dueAll("no such one", -1, x.goes(-1, 7), x.goes(6, 7), x.goes(MIN, 7), x.goes(MAX, 7));
        Check.dueAll("no such CELL", -1, x.goes(0, -1), x.goes(0, 15), x.goes(0, MIN), x.goes(0, MAX));
    }

    /** "(1, 0; he is there: 1)". */
    private static void goesHeIsThere() {
        HillsLieDown x = Check.flat(20);
        Check.bring(x, Check.SLEEPER, 0, 120, 0);
        Check.bring(x, Check.SLEEPER, 0, 120, 14);
        Check.due("on the first CELL", x.goes(0, 0), 1);
        Check.due("nowhere else", x.goes(0, 1), 0);
        Check.due("on the last CELL", x.goes(1, 14), 1);
        Check.due("nowhere else", x.goes(1, 13), 0);
    }

    /** "by his own STRIDE": just that, and 1 more, either way. */
    private static void goesByHisStride() {
        for (int kind = 0; kind < 8; kind++) {
            for (int figure = 0; figure < 10; figure += 3) {
                int[] strides = {2, 1, 2, 0, 0, 1, 3, 3 + figure / 3};
                int stands = kind == Check.AUNT ? Math.min(1, figure / 3) : kind == Check.TWIN ? 1 : 0;
                HillsLieDown x = new HillsLieDown();
                Check.bring(x, kind, figure, 0, 7);
                int up = 5 + strides[kind] - stands;
                x.raises(8, up);
                x.raises(6, up);
                Check.due("KIND " + kind + " up to greater", x.goes(0, 8), 1);
                Check.due("KIND " + kind + " up to lesser", x.goes(0, 6), 1);
                x.raises(8, up + 1);
                x.raises(6, up + 1);
                Check.due("KIND " + kind + " no higher to greater", x.goes(0, 8), 0);
                Check.due("KIND " + kind + " no higher to lesser", x.goes(0, 6), 0);
                x.raises(7, 20);
                x.raises(6, 0);
                x.raises(8, 0);
                Check.due("KIND " + kind + " down any depth", x.goes(0, 6) + x.goes(0, 8), 2);
            }
        }
    }

    /** "straight there, CELL by CELL". */
    private static void goesCellByCell() {
        HillsLieDown x = new HillsLieDown();
        x.raises(10, 8);
        x.raises(4, 8);
        Check.bring(x, Check.WALKER, 0, 60, 7);
        for (int cell = 0; cell < 15; cell++) {
            Check.due("to " + cell, x.goes(0, cell), cell > 4 && cell < 10 ? 1 : 0);
        }
        x.raises(10, 7);
        Check.due("over it", x.goes(0, 14), 1);
        Check.due("not over the other one", x.goes(0, 0), 0);
        x.raises(4, 7);
        Check.due("over it", x.goes(0, 0), 1);
    }

    /** "all others staying". */
    private static void goesOthersStaying() {
        HillsLieDown x = new HillsLieDown();
        x.raises(9, 8);
        Check.bring(x, Check.WALKER, 0, 60, 7);
        Check.bring(x, Check.WALKER, 0, 70, 9);
        x.turns(1, 2);
        Check.due("the hill is lower under the other one", x.goes(0, 9), 1);
        x.moves(1, 8);
        Check.due("now it is the CELL ahead that is", x.goes(0, 9), 0);
    }

    /** "he himself PRESSING as he goes"; "at each step GROUND is as he stands in the CELL he is in then". */
    private static void goesPressingAsHeGoes() {
        HillsLieDown x = new HillsLieDown();
        Check.heights(x, 5, 5, 5, 5, 6, 7, 8, 9, 10);
        Check.bring(x, Check.WALKER, 0, 70, 0);
        Check.due("1 up is 2 up for him", x.goes(0, 8), 1);
        x.raises(8, 11);
        Check.due("2 up is 3 up for him", x.goes(0, 8), 0);
        x.moves(0, 14);
        Check.due("the hill ahead is not lower for him", x.goes(0, 8), 0);
        // A DEAD one of 60: 4, 3 beside; he goes up by none, so 1 down is level for him.
        HillsLieDown y = new HillsLieDown();
        Check.heights(y, 9, 8, 7, 6);
        Check.bring(y, Check.DEAD, 0, 60, 0);
        Check.due("down by 1 each", y.far(0, 0), 4);
        y.raises(5, 4);
        y.raises(6, 3);
        Check.due("down by 1 each", y.far(0, 0), 6);
    }

    /** "(what 0), the least (1). -1". */
    private static void farRanges() {
        HillsLieDown x = new HillsLieDown();
        Check.due("nobody", x.far(0, 0), -1);
        for (int w = 0; w < 6; w++) {
            Check.bring(x, Check.WALKER, 0, 60, 7);
        }
        Check.due("the first one", x.far(0, 0), 14);
        Check.due("the last one", x.far(5, 1), 0);
        Check.dueAll("no such one", -1, x.far(-1, 0), x.far(6, 0), x.far(MIN, 1), x.far(MAX, 1));
        Check.dueAll("no such what", -1, x.far(0, -1), x.far(0, 2), x.far(0, MIN), x.far(0, MAX));
    }

    /** "the greatest CELL he gets to so; the least": where he is, if he gets nowhere. */
    private static void farEdges() {
        HillsLieDown x = Check.flat(20);
        Check.bring(x, Check.SLEEPER, 0, 120, 7);
        for (int cell = 0; cell < 15; cell++) {
            x.moves(0, cell);
            Check.due("greatest", x.far(0, 0), cell);
            Check.due("least", x.far(0, 1), cell);
        }
        HillsLieDown y = new HillsLieDown();
        Check.bring(y, Check.WALKER, 0, 60, 0);
        Check.due("from the first CELL", y.far(0, 0), 14);
        Check.due("from the first CELL", y.far(0, 1), 0);
        y.moves(0, 14);
        Check.due("from the last CELL", y.far(0, 0), 14);
        Check.due("from the last CELL", y.far(0, 1), 0);
        y.raises(0, 8);
        y.raises(14, 8);
        y.moves(0, 7);
        Check.due("not upon the edge", y.far(0, 0), 13);
        Check.due("not upon the edge", y.far(0, 1), 1);
    }

    /** "-1". */
    private static void companyRanges() {
        HillsLieDown x = new HillsLieDown();
        Check.due("nobody", x.company(0, 0), -1);
        for (int w = 0; w < 6; w++) {
            Check.bring(x, Check.WALKER, 0, 60, 7);
        }
        Check.due("the first one, to the first CELL", x.company(0, 0), 0);
        Check.due("the last one, to the last CELL", x.company(5, 14), 0);
        Check.dueAll("no such one", -1, x.company(-1, 7), x.company(6, 7), x.company(MIN, 7), x.company(MAX, 7));
        Check.dueAll("no such CELL", -1, x.company(0, -1), x.company(0, 15), x.company(0, MIN), x.company(0, MAX));
    }

    /** "the fewest of the others" may be nobody (0); "-4" if all of them are not enough. */
    private static void companyOfNobody() {
        HillsLieDown x = new HillsLieDown();
        Check.bring(x, Check.SLEEPER, 0, 120, 0);
        Check.due("he is there", x.company(0, 0), 0);
        Check.due("none there is", x.company(0, 1), -4);
        Check.due("none there is", x.hire(0, 1, 0), -4);
        Check.bring(x, Check.WALKER, 0, 60, 14);
        Check.due("the other one does not help", x.company(0, 1), -4);
        Check.due("he gets there alone", x.company(1, 13), 0);
    }

    /**
     * A hill at 6 with a hole of 0 ahead of it, where the one with number 2 is, with AUNTS about who
     * each take 2 from the hill, if they go along, and nothing from the hole.
     */
    private static HillsLieDown hill(int v) {
        HillsLieDown x = new HillsLieDown();
        x.raises(5, 0);
        x.raises(6, v);
        int[] ages = {19, 10, 60, 9, 0, 20};
        for (int w = 0; w < 6; w++) {
            Check.bring(x, w == 2 ? Check.WALKER : Check.AUNT, 9, ages[w], w == 2 ? 5 : 14);
        }
        return x;
    }

    /** "the fewest of the others .. (bits, of several the least)". */
    private static void companyFewestAndLeast() {
        int[] hills = {2, 3, 4, 5, 6, 7, 8, 10, 11, 12, 13, 20};
        int[] bits = {0, 1, 1, 3, 3, 11, 11, 27, 59, 59, -4, -4};
        for (int i = 0; i < hills.length; i++) {
            Check.due("a hill of " + hills[i], hill(hills[i]).company(2, 6), bits[i]);
        }
        // The greater number alone is fewer than two lesser ones.
        HillsLieDown x = new HillsLieDown();
        x.raises(5, 0);
        x.raises(6, 4);
        Check.bring(x, Check.WALKER, 0, 60, 5);
        Check.bring(x, Check.AUNT, 6, 0, 14);
        Check.bring(x, Check.AUNT, 6, 0, 14);
        Check.bring(x, Check.AUNT, 9, 10, 14);
        Check.due("one", x.company(0, 6), 8);
        x.moves(0, 8);
        Check.due("he is beyond it", x.company(0, 7), 0);
    }

    /** "going along in his CELL all the way": from the first step on, wherever they are now. */
    private static void companyAllTheWay() {
        HillsLieDown x = new HillsLieDown();
        Check.heights(x, 5, 5, 5, 5, 6, 0, 4);
        Check.bring(x, Check.WALKER, 0, 60, 3);
        Check.bring(x, Check.AUNT, 9, 0, 14);
        Check.due("she goes along", x.company(0, 6), 2);
        Check.due("she goes along", x.hire(0, 6, 0), 2);
        x.raises(4, 7);
        Check.due("with her the first step is too high", x.company(0, 6), -4);
        Check.due("without her it is not", x.company(0, 5), 0);
        // Who goes along is not where he was: it rises there.
        HillsLieDown y = new HillsLieDown();
        Check.heights(y, 5, 5, 5, 5, 5, 5, 8);
        Check.bring(y, Check.WALKER, 0, 60, 5);
        Check.bring(y, Check.WALKER, 0, 70, 6);
        Check.due("he stays, so it is lower there", y.company(0, 6), 0);
        Check.due("it is as it was", y.walker(1, 3), 6);
    }

    /** "-1". */
    private static void hireRanges() {
        HillsLieDown x = new HillsLieDown();
        Check.due("nobody", x.hire(0, 0, 0), -1);
        for (int w = 0; w < 6; w++) {
            Check.bring(x, Check.WALKER, 0, 60, 7);
        }
        Check.due("the first one, to the first CELL", x.hire(0, 0, 0), 0);
        Check.due("the last one, to the last CELL", x.hire(5, 14, 1), 0);
        Check.dueAll("no such one", -1, x.hire(-1, 7, 0), x.hire(6, 7, 0), x.hire(MIN, 7, 1), x.hire(MAX, 7, 1));
        Check.dueAll("no such CELL", -1, x.hire(0, -1, 0), x.hire(0, 15, 0), x.hire(0, MIN, 1), x.hire(0, MAX, 1));
        Check.dueAll("no such what", -1, x.hire(0, 7, -1), x.hire(0, 7, 2), x.hire(0, 7, MIN), x.hire(0, 7, MAX));
    }

    /** "HIRE: bits (what 0; -4), PAY (1; -4)": nobody asks nothing. */
    private static void hireNobodyAndNone() {
        HillsLieDown x = hill(2);
        Check.due("nobody", x.hire(2, 6, 0), 0);
        Check.due("nothing", x.hire(2, 6, 1), 0);
        HillsLieDown y = hill(13);
        Check.dueAll("none", -4, y.hire(2, 6, 0), y.hire(2, 6, 1));
        HillsLieDown z = hill(12);
        Check.due("all the others", z.hire(2, 6, 0), 59);
        Check.due("PAY", z.hire(2, 6, 1), 2 + 2 + 1 + 1 + 3);
    }

    /** "PAY (each SHOWS by 10, cut, and 1)". */
    private static void hirePayByShows() {
        for (int age = 0; age <= 120; age++) {
            HillsLieDown x = new HillsLieDown();
            x.raises(5, 0);
            x.raises(6, 4);
            Check.bring(x, Check.WALKER, 0, 60, 5);
            Check.bring(x, Check.AUNT, 9, age, 14);
            Check.due("an AUNT of " + age, x.hire(0, 6, 1), age / 10 + 1);
        }
        // A HIDER SHOWS less: of 29 and of 30 with 9 it is 10 and 11; of 28 it is 9. He makes a hole
        // ahead of the next hill deeper, which another takes away: 0 at least.
        for (int age = 27; age <= 31; age++) {
            HillsLieDown x = new HillsLieDown();
            x.raises(5, 0);
            x.raises(6, 4);
            Check.bring(x, Check.WALKER, 0, 60, 5);
            Check.bring(x, Check.AUNT, 9, 120, 14);
            Check.bring(x, Check.HIDER, 9, age, 6);
            Check.bring(x, Check.TWIN, 9, age, 6);
            Check.due("he is not hired", x.hire(0, 6, 0), 2);
            Check.due("SHOWS of a HIDER", x.walker(2, 7), age - 19);
            Check.due("SHOWS of a TWIN", x.walker(3, 7), (age - 19) / 2);
        }
    }

    /** "that asks least PAY": more of them may ask less; "(bits, of several the least)". */
    private static void hireOfSeveralTheLeast() {
        int[] hills = {4, 6, 8, 10, 12};
        int[] bits = {8, 24, 25, 27, 59};
        int[] pays = {1, 2, 4, 6, 9};
        for (int i = 0; i < hills.length; i++) {
            HillsLieDown x = hill(hills[i]);
            Check.due("a hill of " + hills[i], x.hire(2, 6, 0), bits[i]);
            Check.due("PAY for a hill of " + hills[i], x.hire(2, 6, 1), pays[i]);
        }
        // Two of PAY 1 and one of PAY 2: the least bits of these, whoever is fewer.
        for (int one = 1; one < 4; one++) {
            HillsLieDown x = new HillsLieDown();
            x.raises(5, 0);
            x.raises(6, 4);
            Check.bring(x, Check.WALKER, 0, 60, 5);
            for (int w = 1; w < 4; w++) {
                Check.bring(x, Check.AUNT, w == one ? 9 : 6, w == one ? 10 : 0, 14);
            }
            Check.due("of one and two", x.hire(0, 6, 0), one == 3 ? 6 : 1 << one);
            Check.due("PAY", x.hire(0, 6, 1), 2);
            Check.due("the fewest", x.company(0, 6), 1 << one);
        }
    }

    /** "-1". */
    private static void sitRanges() {
        HillsLieDown x = new HillsLieDown();
        Check.due("nobody", x.sit(0, 0), -1);
        for (int w = 0; w < 6; w++) {
            Check.bring(x, Check.WALKER, 0, 60, 7);
        }
        Check.due("the first one", x.sit(0, 0), 0);
        Check.due("the last one", x.sit(5, 1), 0);
        Check.dueAll("no such one", -1, x.sit(-1, 0), x.sit(6, 0), x.sit(MIN, 1), x.sit(MAX, 1));
        Check.dueAll("no such what", -1, x.sit(0, -1), x.sit(0, 2), x.sit(0, MIN), x.sit(0, MAX));
    }

    /** "of several the least". */
    private static void sitOfSeveralTheLeast() {
        HillsLieDown x = new HillsLieDown();
        Check.bring(x, Check.WALKER, 0, 60, 7);
        Check.due("all are alike", x.sit(0, 0), 0);
        Check.bring(x, Check.WALKER, 0, 80, 7);
        Check.due("either edge", x.sit(1, 0), 0);
        x.raises(4, 7);
        x.raises(10, 7);
        Check.due("either hill", x.sit(1, 0), 4);
        Check.due("no WATER", x.sit(1, 1), 0);
        x.raises(4, 8);
        Check.due("the lesser hill is the one with 7: both let out all but 1", x.sit(1, 0), 10);
        Check.due("no WATER", x.sit(1, 1), 0);
    }

    /** CELLS 0 .. 14 are looked at, the first and the last one, too. */
    private static void sitOnTheEdges() {
        HillsLieDown x = Check.flat(0);
        x.raises(0, 10);
        x.raises(14, 20);
        Check.bring(x, Check.WALKER, 0, 120, 7);
        Check.due("upon the first CELL", x.sit(0, 0), 0);
        Check.due("WATER", x.sit(0, 1), 13 * 4);
        x.raises(0, 20);
        x.raises(14, 10);
        Check.due("upon the last CELL", x.sit(0, 0), 14);
        Check.due("WATER", x.sit(0, 1), 13 * 4);
        Check.bring(x, Check.WALKER, 0, 120, 14);
        Check.due("all else as is", x.sit(0, 0), 14);
        Check.due("both are there", x.sit(0, 1), 0);
        // An AUNT who PRESSES 4 would do best beyond the edge, where there is no CELL: the dam is 2
        // lower by her then, and the mine beside it as deep as it was.
        HillsLieDown y = Check.flat(20);
        Check.bring(y, Check.AUNT, 9, 80, 7);
        y.raises(12, 5);
        y.raises(13, 10);
        y.raises(14, 0);
        Check.due("upon the dam", y.sit(0, 0), 13);
        Check.due("WATER", y.sit(0, 1), 4);
        Check.heights(y, 0, 10, 5, 20, 20, 20, 20, 20, 20, 20, 20, 20, 20, 20, 20);
        Check.due("beside the dam, on the edge", y.sit(0, 0), 0);
        Check.due("WATER", y.sit(0, 1), 4);
    }

    /** "-1". */
    private static void apartRanges() {
        HillsLieDown x = new HillsLieDown();
        Check.dueAll("no such what", -1, x.apart(-1), x.apart(2), x.apart(MIN), x.apart(MAX));
    }

    /** "twos (how many)": nobody and one are none; "the first (1; -4)". */
    private static void apartOfFew() {
        HillsLieDown x = new HillsLieDown();
        Check.due("of nobody", x.apart(0), 0);
        Check.due("of nobody", x.apart(1), -4);
        Check.bring(x, Check.WALKER, 0, 120, 0);
        Check.due("of one", x.apart(0), 0);
        Check.due("of one", x.apart(1), -4);
        Check.bring(x, Check.WALKER, 0, 80, 0);
        Check.due("of two", x.apart(0), 0);
        Check.due("of two", x.apart(1), -4);
    }

    /** "make more WATER in all than there is now": as much is not more. */
    private static void apartMoreThanNow() {
        HillsLieDown x = new HillsLieDown();
        Check.bring(x, Check.WALKER, 0, 70, 3);
        Check.bring(x, Check.WALKER, 0, 80, 9);
        Check.due("3 in one hole, 3 in two", x.apart(0), 0);
        x.moves(1, 14);
        Check.due("3 in one hole, 1 in one", x.apart(0), 1);
        Check.due("the first", x.apart(1), 1);
        x.moves(1, 0);
        Check.due("in the lesser one of their CELLS, on the edge, there is none", x.apart(0), 0);
        x.moves(0, 9);
        x.moves(1, 9);
        Check.due("they are in one CELL", x.apart(0), 0);
    }

    /** "the first (10 the lesser and the other)". */
    private static void apartFirstAndLast() {
        HillsLieDown x = new HillsLieDown();
        for (int w = 0; w < 6; w++) {
            Check.bring(x, Check.WALKER, 0, w < 4 ? 60 : 80, w < 5 ? 3 : 14);
        }
        // 5 on the edge comes to 3 with whoever is there: 2 more; all but 5 are there already.
        Check.due("five twos", x.apart(0), 5);
        Check.due("the first", x.apart(1), 5);
        for (int w = 0; w < 4; w++) {
            x.moves(w, 14);
        }
        // 0 .. 3 with 4 come to 3, where they PRESS nothing.
        Check.due("one two", x.apart(0), 1);
        Check.due("the last two of all", x.apart(1), 45);
        HillsLieDown y = new HillsLieDown();
        for (int w = 0; w < 6; w++) {
            Check.bring(y, Check.WALKER, 0, 70, w == 0 ? 7 : 14);
        }
        Check.due("each with 0", y.apart(0), 5);
        Check.due("the first two of all", y.apart(1), 1);
    }

    /** "were both in the lesser one of their CELLS", be it that of the greater number. */
    private static void apartInTheLesserCell() {
        for (int lesser = 0; lesser < 2; lesser++) {
            HillsLieDown x = new HillsLieDown();
            Check.bring(x, Check.WALKER, 0, 80, lesser == 0 ? 7 : 14);
            Check.bring(x, Check.WALKER, 0, 80, lesser == 1 ? 7 : 14);
            Check.due("both in 7: 4 instead of 2", x.apart(0), 1);
            Check.due("the lesser number first", x.apart(1), 1);
            x.moves(lesser, 0);
            x.moves(1 - lesser, 7);
            Check.due("both in 0: none instead of 2", x.apart(0), 0);
            x.moves(1 - lesser, 14);
            Check.due("both in 0: none, as now", x.apart(0), 0);
        }
    }

    /** "KEEP may be nobody (0)"; all of six are 63. */
    private static void keepsNobodyAndAll() {
        HillsLieDown x = new HillsLieDown();
        Check.due("there is nobody", x.keeps(), 0);
        Check.bring(x, Check.WALKER, 0, 80, 7);
        Check.due("he makes a LAKE", x.keeps(), 0);
        x.moves(0, 0);
        Check.due("on the edge he makes none", x.keeps(), 1);
        for (int w = 1; w < 6; w++) {
            Check.bring(x, Check.WALKER, 0, 120, w % 2 * 14);
        }
        Check.due("all", x.keeps(), 63);
        x.moves(5, 7);
        Check.due("all but the last", x.keeps(), 31);
        x.moves(0, 7);
        x.moves(5, 14);
        Check.due("all but the first", x.keeps(), 62);
        for (int w = 0; w < 6; w++) {
            x.moves(w, 7);
        }
        Check.due("nobody of six", x.keeps(), 0);
    }

    /** "-4 (there is some without any, too, and with each set)". */
    private static void keepsNone() {
        HillsLieDown x = new HillsLieDown();
        x.raises(1, 4);
        Check.due("nobody is there", x.keeps(), -4);
        Check.bring(x, Check.WALKER, 0, 120, 7);
        Check.due("he makes it no better", x.keeps(), -4);
        x.moves(0, 0);
        Check.due("with him it runs out over the edge", x.keeps(), 1);
        Check.bring(x, Check.WALKER, 0, 120, 7);
        Check.due("with him alone", x.keeps(), 1);
        x.raises(5, 4);
        Check.due("another LAKE", x.keeps(), -4);
    }

    /** "the most WALKERS (bits, of several the least)". */
    private static void keepsOfSeveralTheLeast() {
        HillsLieDown x = new HillsLieDown();
        x.raises(7, 6);
        for (int w = 0; w < 6; w++) {
            Check.bring(x, Check.WALKER, 0, 70, 7);
            Check.due("one of " + (w + 1), x.keeps(), 1);
        }
        x.raises(7, 8);
        Check.due("three of six", x.keeps(), 7);
        x.moves(0, 3);
        Check.due("three of those on the hill", x.keeps(), 14);
        x.moves(0, 0);
        Check.due("and the one on the edge", x.keeps(), 15);
        // More of them ahead of lesser bits: 0 alone, or 1 and 2.
        HillsLieDown y = new HillsLieDown();
        y.raises(7, 7);
        Check.bring(y, Check.WALKER, 0, 80, 7);
        Check.bring(y, Check.WALKER, 0, 70, 7);
        Check.bring(y, Check.WALKER, 0, 70, 7);
        Check.due("two", y.keeps(), 6);
    }

    /** "-4": nobody is there, or all is even. */
    private static void evenNone() {
        HillsLieDown x = new HillsLieDown();
        Check.due("nobody", x.even(), -4);
        Check.bring(x, Check.WALKER, 0, 60, 7);
        Check.due("none is less than 0", x.even(), -4);
        x.raises(3, 9);
        Check.due("he PRESSES nothing", x.even(), -4);
    }

    /** "least, less than now". */
    private static void evenLessThanNow() {
        HillsLieDown x = new HillsLieDown();
        x.raises(3, 7);
        Check.bring(x, Check.WALKER, 0, 80, 3);
        Check.due("he is where it is least", x.even(), -4);
        x.moves(0, 9);
        Check.due("by 2 less than now", x.even(), 3);
        x.raises(10, 7);
        x.moves(0, 14);
        Check.due("two hills of 2: as much as now at best", x.even(), -4);
    }

    /** "of several the first": the first WALKER, then the first CELL; up to the last of both. */
    private static void evenFirstAndLast() {
        HillsLieDown x = new HillsLieDown();
        x.raises(14, 9);
        for (int w = 0; w < 6; w++) {
            Check.bring(x, Check.WALKER, 0, w == 5 ? 100 : 60, 7);
        }
        Check.due("the last one at the last CELL", x.even(), 514);
        x.raises(14, 5);
        x.raises(0, 9);
        Check.due("the last one at the first CELL", x.even(), 500);
        HillsLieDown y = new HillsLieDown();
        y.raises(0, 9);
        Check.bring(y, Check.WALKER, 0, 100, 3);
        Check.bring(y, Check.WALKER, 0, 100, 3);
        // Both PRESS 4, so their hole is 0, 5 lower than beside; with one of them away it is 4.
        Check.due("the first one, to the first CELL", y.even(), 0);
        y.moves(1, 0);
        y.moves(0, 7);
        Check.due("a hole of 4 wherever 0 goes but to 0, and there too", y.even(), -4);
        HillsLieDown z = new HillsLieDown();
        z.raises(3, 7);
        Check.bring(z, Check.WALKER, 0, 70, 0);
        Check.bring(z, Check.WALKER, 0, 70, 14);
        Check.due("either of two", z.even(), 3);
        HillsLieDown v = new HillsLieDown();
        Check.bring(v, Check.WALKER, 0, 70, 7);
        Check.bring(v, Check.WALKER, 0, 70, 7);
        // Wherever one of them goes but back, it is 1 instead of 2.
        Check.due("any CELL", v.even(), 0);
    }

    /** "-1". */
    private static void orderRanges() {
        HillsLieDown x = new HillsLieDown();
        Check.dueAll("no such what", -1, x.order(-1), x.order(2), x.order(MIN), x.order(MAX));
    }

    /** "who (what 0; -4), how far (1; -4)". */
    private static void orderNone() {
        HillsLieDown x = new HillsLieDown();
        Check.dueAll("nobody", -4, x.order(0), x.order(1));
        Check.bring(x, Check.SLEEPER, 0, 120, 14);
        Check.dueAll("one who stays at CELL 0", 0, x.order(0), x.order(1));
    }

    /** "gets farthest .., of several the least". */
    private static void orderOfSeveralTheLeast() {
        HillsLieDown x = new HillsLieDown();
        x.raises(4, 8);
        for (int w = 0; w < 6; w++) {
            Check.bring(x, Check.WALKER, 0, 60, 14 - w);
        }
        Check.due("all alike", x.order(0), 0);
        Check.due("ahead of the hill", x.order(1), 3);
        HillsLieDown y = new HillsLieDown();
        y.raises(4, 8);
        int[] kinds = {Check.SLEEPER, Check.RIDER, Check.WALKER, Check.YOUNG, Check.TWIN, Check.YOUNG};
        int[] who = {0, 0, 0, 3, 3, 3};
        for (int w = 0; w < 6; w++) {
            Check.bring(y, kinds[w], 0, 0, 14);
            Check.due("of " + (w + 1), y.order(0), who[w]);
            Check.due("how far", y.order(1), w < 3 ? 3 : 14);
        }
    }

    /** "set AT CELL 0 (all others as they are)": from the first CELL up to the last. */
    private static void orderEdges() {
        HillsLieDown x = new HillsLieDown();
        x.raises(1, 8);
        for (int w = 0; w < 5; w++) {
            Check.bring(x, Check.WALKER, 0, 60, 14);
        }
        Check.due("nobody gets away", x.order(1), 0);
        Check.bring(x, Check.YOUNG, 0, 60, 0);
        Check.due("the last one", x.order(0), 5);
        Check.due("to the last CELL", x.order(1), 14);
        // The others are as they are: one of 70 upon the hill makes it lower for those at CELL 0.
        x.moves(5, 14);
        x.raises(1, 9);
        Check.due("nobody gets away", x.order(1), 0);
        HillsLieDown y = new HillsLieDown();
        y.raises(1, 8);
        Check.bring(y, Check.WALKER, 0, 70, 1);
        Check.bring(y, Check.WALKER, 0, 60, 9);
        Check.due("the other one gets over it", y.order(0), 1);
        Check.due("to the last CELL", y.order(1), 14);
    }

    private static void askingChangesNothing() {
        HillsLieDown x = Check.slowCountry();
        String before = Check.seen(x);
        x.goes(0, 0);
        x.far(0, 1);
        x.company(0, 6);
        x.hire(0, 6, 1);
        x.sit(0, 1);
        x.apart(1);
        x.keeps();
        x.even();
        x.order(1);
        Check.same("nothing changes", Check.seen(x), before);
    }
}
