/** Promises 3 to 9, edge by edge: each method stands for a sentence that names a boundary. */
public final class WalkersEdgesTest {
    private static final int MIN = Integer.MIN_VALUE;
    private static final int MAX = Integer.MAX_VALUE;

    public static void main(String[] args) {
        walkerRanges();
        walkerWay();
        pressesOfWalkers();
        pressesOfRiders();
        pressesOfHidersAndTwins();
        pressesOfSleepersAndDead();
        pressesOfAunts();
        pressesOfYoung();
        spreads();
        strides();
        shows();
        heightRanges();
        comesRanges();
        comesNoRoom();
        comesFirstRefusal();
        comesFromShelf();
        raisesRanges();
        movesRanges();
        turnsRanges();
        daysRanges();
        daysAbove999();
        daysNoHigherThanStride();
        daysDownAnyDepth();
        daysTooHighHisWayStays();
        daysNoCellHisWayEnds();
        daysByNumbers();
        daysAnswerAllWater();
        Check.end("WalkersEdgesTest");
    }

    private static int fact(int kind, int figure, int age, int what) {
        HillsLieDown x = new HillsLieDown();
        Check.due("comes", Check.bring(x, kind, figure, age, 7), 0);
        return x.walker(0, what);
    }

    /** WALKERS 0 .. 5 "as they come"; what 0 .. 8; "-1". */
    private static void walkerRanges() {
        HillsLieDown x = new HillsLieDown();
        for (int w = 0; w < 6; w++) {
            Check.due("he is not there yet", x.walker(w, 0), -1);
            Check.due("he comes", Check.bring(x, w, 9 - w, 20 * w, 14 - w), w);
            Check.due("KIND", x.walker(w, 0), w);
            Check.due("FIGURE", x.walker(w, 1), 9 - w);
            Check.due("AGE", x.walker(w, 2), 20 * w);
            Check.due("AT", x.walker(w, 3), 14 - w);
            Check.due("WAY 0 at first", x.walker(w, 4), 0);
        }
        for (int what = 0; what < 9; what++) {
            Check.dueAll("no such one", -1, x.walker(-1, what), x.walker(6, what), x.walker(MIN, what), x.walker(MAX, what));
        }
        for (int w = 0; w < 6; w++) {
            Check.dueAll("no such what", -1, x.walker(w, -1), x.walker(w, 9), x.walker(w, MIN), x.walker(w, MAX));
        }
        Check.due("the last what", x.walker(5, 8), 2);
        Check.due("the first one stays", x.walker(0, 1), 9);
    }

    /** "WAY (4: 0 none, 1 to lesser, 2 to greater)". */
    private static void walkerWay() {
        HillsLieDown x = new HillsLieDown();
        Check.bring(x, Check.WALKER, 0, 0, 7);
        Check.due("0 at first", x.walker(0, 4), 0);
        x.turns(0, 1);
        Check.due("to lesser", x.walker(0, 4), 1);
        x.days(1);
        Check.due("to a lesser CELL", x.walker(0, 3), 6);
        x.turns(0, 2);
        Check.due("to greater", x.walker(0, 4), 2);
        x.days(2);
        Check.due("to a greater CELL", x.walker(0, 3), 8);
        x.turns(0, 0);
        Check.due("none", x.walker(0, 4), 0);
        x.days(1);
        Check.due("he stays", x.walker(0, 3), 8);
    }

    /** What one of a KIND and a FIGURE PRESSES by AGE: told ahead of each AGE where it changes. */
    private static void pressesAre(int kind, int figure, int... agesAndPresses) {
        int next = 0;
        int due = 0;
        for (int age = 0; age <= 120; age++) {
            if (next < agesAndPresses.length && age == agesAndPresses[next]) {
                due = agesAndPresses[next + 1];
                next += 2;
            }
            Check.due("KIND " + kind + " FIGURE " + figure + " AGE " + age, fact(kind, figure, age, 5), due);
        }
    }

    /** "WALKER AGE less 60 by 10, cut (0 at least)". */
    private static void pressesOfWalkers() {
        pressesAre(Check.WALKER, 0, 0, 0, 70, 1, 80, 2, 90, 3, 100, 4, 110, 5, 120, 6);
        pressesAre(Check.WALKER, 9, 0, 0, 70, 1, 80, 2, 90, 3, 100, 4, 110, 5, 120, 6);
    }

    /** "RIDER 1 less (0 at least)". */
    private static void pressesOfRiders() {
        pressesAre(Check.RIDER, 0, 0, 0, 80, 1, 90, 2, 100, 3, 110, 4, 120, 5);
        pressesAre(Check.RIDER, 9, 0, 0, 80, 1, 90, 2, 100, 3, 110, 4, 120, 5);
    }

    /** "HIDER as a WALKER"; "TWIN 1 more than a HIDER's". */
    private static void pressesOfHidersAndTwins() {
        pressesAre(Check.HIDER, 9, 0, 0, 70, 1, 80, 2, 90, 3, 100, 4, 110, 5, 120, 6);
        pressesAre(Check.TWIN, 9, 0, 1, 70, 2, 80, 3, 90, 4, 100, 5, 110, 6, 120, 7);
    }

    /** "SLEEPER 2 more, if AGE is 60 or more; DEAD twice a SLEEPER's". */
    private static void pressesOfSleepersAndDead() {
        pressesAre(Check.SLEEPER, 9, 0, 0, 60, 2, 70, 3, 80, 4, 90, 5, 100, 6, 110, 7, 120, 8);
        pressesAre(Check.DEAD, 9, 0, 0, 60, 4, 70, 6, 80, 8, 90, 10, 100, 12, 110, 14, 120, 16);
    }

    /** "AUNT FIGURE by 3, cut, more than a RIDER's". */
    private static void pressesOfAunts() {
        for (int figure = 0; figure < 10; figure++) {
            int more = figure / 3;
            pressesAre(Check.AUNT, figure, 0, more, 80, 1 + more, 90, 2 + more, 100, 3 + more, 110, 4 + more,
                120, 5 + more);
        }
    }

    /** "YOUNG 0". */
    private static void pressesOfYoung() {
        pressesAre(Check.YOUNG, 0, 0, 0);
        pressesAre(Check.YOUNG, 9, 0, 0);
    }

    /** "WALKER 0; RIDER 1; DEAD 2; AUNT 2; others as what they are under". */
    private static void spreads() {
        int[] due = {0, 1, 0, 0, 2, 2, 0, 0};
        for (int kind = 0; kind < 8; kind++) {
            Check.due("KIND " + kind, fact(kind, 0, 0, 8), due[kind]);
            Check.due("KIND " + kind, fact(kind, 9, 120, 8), due[kind]);
        }
    }

    /** "WALKER 2; RIDER 1; SLEEPER 0; DEAD 0; AUNT as RIDER; TWIN 3; YOUNG 3 plus (FIGURE over 3, cut)". */
    private static void strides() {
        for (int figure = 0; figure < 10; figure++) {
            int[] due = {2, 1, 2, 0, 0, 1, 3, 3 + figure / 3};
            for (int kind = 0; kind < 8; kind++) {
                Check.due("KIND " + kind + " FIGURE " + figure, fact(kind, figure, 0, 6), due[kind]);
                Check.due("KIND " + kind + " FIGURE " + figure, fact(kind, figure, 120, 6), due[kind]);
            }
        }
    }

    /** "WALKER AGE; HIDER AGE less FIGURE and 10 (0 at least); TWIN half of a HIDER's, cut". */
    private static void shows() {
        for (int kind : new int[] {Check.WALKER, Check.RIDER, Check.SLEEPER, Check.DEAD, Check.AUNT, Check.YOUNG}) {
            Check.due("least of KIND " + kind, fact(kind, 9, 0, 7), 0);
            Check.due("greatest of KIND " + kind, fact(kind, 9, 120, 7), 120);
        }
        for (int figure = 0; figure < 10; figure++) {
            for (int more = -1; more < 4; more++) {
                int age = 10 + figure + more;
                Check.due("HIDER of " + age + " with " + figure, fact(Check.HIDER, figure, age, 7), Math.max(0, more));
                Check.due("TWIN of " + age + " with " + figure, fact(Check.TWIN, figure, age, 7), Math.max(0, more) / 2);
            }
            Check.due("HIDER of 0", fact(Check.HIDER, figure, 0, 7), 0);
            Check.due("TWIN of 0", fact(Check.TWIN, figure, 0, 7), 0);
            Check.due("HIDER of 120", fact(Check.HIDER, figure, 120, 7), 110 - figure);
            Check.due("TWIN of 120", fact(Check.TWIN, figure, 120, 7), (110 - figure) / 2);
        }
    }

    /** CELLS 0 .. 14, HEIGHT 0 .. 20: "-1". */
    private static void heightRanges() {
        HillsLieDown x = new HillsLieDown();
        x.raises(0, 20);
        x.raises(14, 0);
        Check.due("the first CELL", x.height(0), 20);
        Check.due("the last CELL", x.height(14), 0);
        Check.dueAll("no such CELL", -1, x.height(-1), x.height(15), x.height(MIN), x.height(MAX));
        Check.bring(x, Check.DEAD, 0, 120, 0);
        Check.due("HEIGHT is as it was under him", x.height(0), 20);
        Check.due("and beside", x.height(1), 5);
    }

    /** AGE 0 .. 120, CELLS 0 .. 14, SHELVES 0 .. 7: "-1". */
    private static void comesRanges() {
        HillsLieDown x = new HillsLieDown();
        for (int d = 0; d < 8; d++) {
            x.keep(d, 1, Check.WALKER, d);
        }
        String before = Check.seen(x);
        for (int out : new int[] {-1, MIN, MAX}) {
            Check.dueAll("out of range", -1, x.comes(out, 60, 7), x.comes(0, out, 7), x.comes(0, 60, out));
        }
        Check.dueAll("one above", -1, x.comes(8, 60, 7), x.comes(0, 121, 7), x.comes(0, 60, 15));
        Check.same("nothing changes", Check.seen(x), before);
        Check.due("least", x.comes(0, 0, 0), 0);
        Check.due("greatest", x.comes(7, 120, 14), 1);
        Check.due("from SHELF 0", x.walker(0, 1), 0);
        Check.due("from SHELF 7", x.walker(1, 1), 7);
        Check.due("AGE 0", x.walker(0, 2), 0);
        Check.due("AGE 120", x.walker(1, 2), 120);
        Check.due("AT 0", x.walker(0, 3), 0);
        Check.due("AT 14", x.walker(1, 3), 14);
    }

    /** "6 at most"; "-2 there is no room". */
    private static void comesNoRoom() {
        HillsLieDown x = new HillsLieDown();
        for (int w = 0; w < 6; w++) {
            Check.due("number", Check.bring(x, Check.WALKER, 0, 60, w), w);
        }
        String before = Check.seen(x);
        Check.dueAll("no room", -2, x.comes(7, 60, 7), x.comes(7, 0, 0), x.comes(7, 120, 14));
        Check.same("nothing changes", Check.seen(x), before);
        Check.due("still six", x.count(0), 6);
    }

    /** "-1, -11, -12 (a ROW), -2": the first one as they are told. */
    private static void comesFirstRefusal() {
        HillsLieDown x = new HillsLieDown();
        x.row(1, Check.BYTES, 0);
        x.row(2, Check.INTS, 100);
        Check.due("nothing", x.comes(0, 60, 7), -11);
        Check.dueAll("a ROW", -12, x.comes(1, 60, 7), x.comes(2, 60, 7));
        Check.dueAll("-1 ahead of -11", -1, x.comes(0, 121, 7), x.comes(0, -1, 7), x.comes(0, 60, 15), x.comes(0, 60, -1));
        Check.dueAll("-1 ahead of -12", -1, x.comes(1, 121, 7), x.comes(1, -1, 7), x.comes(1, 60, 15), x.comes(1, 60, -1));
        for (int w = 0; w < 6; w++) {
            Check.bring(x, Check.WALKER, 0, 60, w);
        }
        Check.due("-2", x.comes(7, 60, 7), -2);
        Check.due("-11 ahead of -2", x.comes(0, 60, 7), -11);
        Check.due("-12 ahead of -2", x.comes(1, 60, 7), -12);
        Check.dueAll("-1 ahead of -2", -1, x.comes(7, 121, 7), x.comes(7, 60, 15), x.comes(8, 60, 7), x.comes(-1, 60, 7));
    }

    /** "what is taken from a SHELF, stay there". */
    private static void comesFromShelf() {
        HillsLieDown x = new HillsLieDown();
        x.keep(3, 1, Check.AUNT, 9);
        Check.due("comes", x.comes(3, 80, 4), 0);
        Check.due("he stays there", x.cost(3), 24);
        Check.due("comes again", x.comes(3, 90, 5), 1);
        x.keep(3, 1, Check.YOUNG, 2);
        Check.due("the one who came is as he was", x.walker(0, 0), Check.AUNT);
        Check.due("the one who came is as he was", x.walker(1, 1), 9);
        x.keep(3, 0, 0, 0);
        Check.due("the one who came is as he was", x.walker(1, 0), Check.AUNT);
        Check.due("nothing is there any more", x.comes(3, 90, 5), -11);
    }

    /** "HEIGHT becomes v (0 .. 20): what it was. -1". */
    private static void raisesRanges() {
        HillsLieDown x = new HillsLieDown();
        Check.due("the greatest at the first", x.raises(0, 20), 5);
        Check.due("the least at the first", x.raises(0, 0), 20);
        Check.due("what it was", x.raises(0, 5), 0);
        Check.due("the least at the last", x.raises(14, 0), 5);
        Check.due("the greatest at the last", x.raises(14, 20), 0);
        String before = Check.seen(x);
        Check.dueAll("no such HEIGHT", -1, x.raises(0, -1), x.raises(0, 21), x.raises(14, -1), x.raises(14, 21),
            x.raises(7, MIN), x.raises(7, MAX), x.raises(7, 256), x.raises(7, 65536));
        Check.dueAll("no such CELL", -1, x.raises(-1, 5), x.raises(15, 5), x.raises(MIN, 5), x.raises(MAX, 5));
        Check.same("nothing changes", Check.seen(x), before);
        Check.due("the others are as they were", x.height(1) + x.height(13), 10);
    }

    /** "He is AT a CELL: where he was. -1". */
    private static void movesRanges() {
        HillsLieDown x = new HillsLieDown();
        Check.due("nobody", x.moves(0, 0), -1);
        for (int w = 0; w < 6; w++) {
            Check.bring(x, Check.WALKER, 0, 60, 7);
        }
        x.turns(0, 1);
        Check.due("the first to the first CELL", x.moves(0, 0), 7);
        Check.due("the last to the last CELL", x.moves(5, 14), 7);
        Check.due("over any distance", x.moves(0, 14), 0);
        Check.due("where he is", x.moves(0, 14), 14);
        Check.due("his WAY is as it was", x.walker(0, 4), 1);
        String before = Check.seen(x);
        Check.dueAll("no such one", -1, x.moves(-1, 7), x.moves(6, 7), x.moves(MIN, 7), x.moves(MAX, 7));
        Check.dueAll("no such CELL", -1, x.moves(0, -1), x.moves(0, 15), x.moves(0, MIN), x.moves(0, MAX));
        Check.same("nothing changes", Check.seen(x), before);
        x.raises(3, 20);
        Check.due("upon any hill", x.moves(0, 3), 14);
        Check.due("DAY is as it was", x.count(1), 0);
    }

    /** "WAY (0 none, 1, 2): what it was. -1". */
    private static void turnsRanges() {
        HillsLieDown x = new HillsLieDown();
        Check.due("nobody", x.turns(0, 0), -1);
        for (int w = 0; w < 6; w++) {
            Check.bring(x, Check.WALKER, 0, 60, w < 3 ? 0 : 14);
        }
        Check.due("what it was", x.turns(0, 2), 0);
        Check.due("what it was", x.turns(0, 1), 2);
        Check.due("what it was", x.turns(0, 0), 1);
        Check.due("the last one", x.turns(5, 2), 0);
        // There is no CELL that way; his WAY is told all the same until a DAY has been.
        Check.due("off the edge", x.walker(5, 4), 2);
        Check.due("the others have none", x.count(4), 1 << 5);
        String before = Check.seen(x);
        Check.dueAll("no such one", -1, x.turns(-1, 0), x.turns(6, 0), x.turns(MIN, 0), x.turns(MAX, 0));
        Check.dueAll("no such WAY", -1, x.turns(5, -1), x.turns(5, 3), x.turns(5, MIN), x.turns(5, MAX));
        Check.same("nothing changes", Check.seen(x), before);
    }

    /** "n DAYS (1 .. 60)": "-1". */
    private static void daysRanges() {
        HillsLieDown x = new HillsLieDown();
        Check.bring(x, Check.WALKER, 0, 60, 3);
        x.turns(0, 2);
        String before = Check.seen(x);
        Check.dueAll("out of range", -1, x.days(0), x.days(61), x.days(-1), x.days(MIN), x.days(MAX));
        Check.same("nothing changes", Check.seen(x), before);
        Check.due("the least", x.days(1), 0);
        Check.due("DAY is 1 more", x.count(1), 1);
        Check.due("he goes one CELL", x.walker(0, 3), 4);
        Check.due("the greatest", x.days(60), 0);
        Check.due("DAY is 60 more", x.count(1), 61);
        Check.due("he is on the edge", x.walker(0, 3), 14);
    }

    /** "days() is refused (-3 ..), if DAY and n together are above 999; none of them goes then". */
    private static void daysAbove999() {
        HillsLieDown x = new HillsLieDown();
        Check.passDays(x, 939);
        Check.due("just 999", x.days(60), 0);
        Check.due("DAY", x.count(1), 999);
        Check.due("one more", x.days(1), -3);
        Check.due("60 more", x.days(60), -3);
        Check.dueAll("-1 ahead of -3", -1, x.days(0), x.days(61), x.days(MAX), x.days(MIN));
        Check.due("DAY", x.count(1), 999);
        HillsLieDown y = new HillsLieDown();
        Check.passDays(y, 940);
        Check.bring(y, Check.WALKER, 0, 60, 3);
        y.turns(0, 2);
        Check.due("1000", y.days(60), -3);
        Check.due("none of them goes", y.walker(0, 3), 3);
        Check.due("DAY", y.count(1), 940);
        Check.due("999", y.days(59), 0);
        Check.due("all of them go", y.walker(0, 3), 14);
        HillsLieDown z = new HillsLieDown();
        Check.passDays(z, 998);
        Check.due("1000", z.days(2), -3);
        Check.due("998", z.count(1), 998);
        Check.due("999", z.days(1), 0);
        Check.due("999", z.count(1), 999);
    }

    /** "its GROUND .. is no more than his STRIDE higher than that of his CELL": just that, and 1 more. */
    private static void daysNoHigherThanStride() {
        for (int kind = 0; kind < 8; kind++) {
            for (int figure = 0; figure < 10; figure++) {
                int[] strides = {2, 1, 2, 0, 0, 1, 3, 3 + figure / 3};
                // At the AGE of 0 a TWIN PRESSES 1 all the same, and an AUNT by her FIGURE, beside too.
                int stands = kind == Check.AUNT ? Math.min(1, figure / 3) : kind == Check.TWIN ? 1 : 0;
                int up = strides[kind] - stands;
                String who = "KIND " + kind + " FIGURE " + figure;
                Check.due(who + " goes up to greater", afterADay(kind, figure, 2, up), 8);
                Check.due(who + " does not go higher", afterADay(kind, figure, 2, up + 1), 7);
                Check.due(who + " goes up to lesser", afterADay(kind, figure, 1, up), 6);
                Check.due(who + " does not go higher", afterADay(kind, figure, 1, up + 1), 7);
            }
        }
    }

    /** Where one of 0 years from 7 is behind a DAY, if the CELL on his WAY is so much higher. */
    private static int afterADay(int kind, int figure, int way, int up) {
        HillsLieDown x = new HillsLieDown();
        Check.bring(x, kind, figure, 0, 7);
        x.turns(0, way);
        x.raises(way == 2 ? 8 : 6, 5 + up);
        x.days(1);
        return x.walker(0, 3);
    }

    /** Down there is no bound: "no more .. higher". */
    private static void daysDownAnyDepth() {
        for (int kind = 0; kind < 8; kind++) {
            HillsLieDown x = Check.flat(0);
            x.raises(7, 20);
            Check.bring(x, kind, 0, 0, 7);
            x.turns(0, kind % 2 + 1);
            x.days(1);
            Check.due("KIND " + kind, x.walker(0, 3), kind % 2 == 0 ? 6 : 8);
        }
    }

    /** "one who has a CELL that way, but too high, stays, his WAY as it was". */
    private static void daysTooHighHisWayStays() {
        for (int way = 1; way < 3; way++) {
            HillsLieDown x = new HillsLieDown();
            Check.bring(x, Check.WALKER, 0, 60, 7);
            x.turns(0, way);
            int ahead = way == 1 ? 6 : 8;
            x.raises(ahead, 8);
            x.days(1);
            Check.due("he stays", x.walker(0, 3), 7);
            Check.due("his WAY", x.walker(0, 4), way);
            x.days(60);
            Check.due("he stays", x.walker(0, 3), 7);
            Check.due("his WAY", x.walker(0, 4), way);
            x.raises(ahead, 7);
            x.days(1);
            Check.due("he goes on", x.walker(0, 3), ahead);
        }
        // A CELL on the edge that is too high is one that there is.
        HillsLieDown y = new HillsLieDown();
        y.raises(0, 8);
        y.raises(14, 8);
        Check.bring(y, Check.WALKER, 0, 60, 1);
        Check.bring(y, Check.WALKER, 0, 60, 13);
        y.turns(0, 1);
        y.turns(1, 2);
        y.days(5);
        Check.due("he stays", y.walker(0, 3), 1);
        Check.due("he stays", y.walker(1, 3), 13);
        Check.due("both have a WAY", y.count(4), 3);
    }

    /** "if there is no CELL that way, his WAY is 0". */
    private static void daysNoCellHisWayEnds() {
        int[] edges = {0, 14};
        for (int way = 1; way < 3; way++) {
            int edge = edges[way - 1];
            HillsLieDown x = new HillsLieDown();
            Check.bring(x, Check.WALKER, 0, 60, edge);
            x.turns(0, way);
            x.days(1);
            Check.due("he stays", x.walker(0, 3), edge);
            Check.due("no WAY", x.walker(0, 4), 0);
            HillsLieDown y = new HillsLieDown();
            Check.bring(y, Check.WALKER, 0, 60, way == 1 ? 1 : 13);
            y.turns(0, way);
            y.days(1);
            Check.due("he has come there", y.walker(0, 3), edge);
            Check.due("his WAY is as it was that DAY", y.walker(0, 4), way);
            y.days(1);
            Check.due("he stays", y.walker(0, 3), edge);
            Check.due("no WAY", y.walker(0, 4), 0);
            y.turns(0, 3 - way);
            y.days(1);
            Check.due("back he goes", y.walker(0, 3), way == 1 ? 1 : 13);
        }
    }

    /** "WALKERS by numbers .. its GROUND (as all stand then)". */
    private static void daysByNumbers() {
        // One of 70 goes upon the hill and makes it 1 lower; who comes behind him in number goes, too.
        for (int presser = 0; presser < 2; presser++) {
            HillsLieDown x = new HillsLieDown();
            x.raises(5, 8);
            x.raises(6, 8);
            Check.bring(x, Check.WALKER, 0, presser == 0 ? 70 : 60, presser == 0 ? 6 : 4);
            Check.bring(x, Check.WALKER, 0, presser == 1 ? 70 : 60, presser == 1 ? 6 : 4);
            x.turns(presser, 1);
            x.turns(1 - presser, 2);
            x.days(1);
            Check.due("he goes upon the hill", x.walker(presser, 3), 5);
            Check.due("the other one", x.walker(1 - presser, 3), presser == 0 ? 5 : 4);
        }
        // One who leaves the hill: it rises behind him, for those behind him in number that DAY.
        for (int presser = 0; presser < 2; presser++) {
            HillsLieDown x = new HillsLieDown();
            x.raises(5, 8);
            x.raises(6, 8);
            Check.bring(x, Check.WALKER, 0, presser == 0 ? 70 : 60, presser == 0 ? 5 : 4);
            Check.bring(x, Check.WALKER, 0, presser == 1 ? 70 : 60, presser == 1 ? 5 : 4);
            x.turns(0, 2);
            x.turns(1, 2);
            x.days(1);
            Check.due("he goes down", x.walker(presser, 3), 6);
            Check.due("the other one", x.walker(1 - presser, 3), presser == 0 ? 4 : 5);
        }
    }

    /** "n DAYS (1 .. 60): all WATER": as it is behind the last of them. */
    private static void daysAnswerAllWater() {
        HillsLieDown x = new HillsLieDown();
        Check.bring(x, Check.WALKER, 0, 80, 11);
        x.turns(0, 2);
        Check.due("over him", x.days(1), 2);
        Check.due("over him", x.days(1), 2);
        Check.due("on the edge there is none", x.days(1), 0);
        Check.due("none", x.days(60), 0);
        HillsLieDown y = new HillsLieDown();
        y.raises(1, 20);
        y.raises(13, 20);
        Check.due("eleven CELLS", y.days(60), 11 * 15);
    }
}
