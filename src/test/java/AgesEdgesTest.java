/** Promises 28 to 33, edge by edge: each method stands for a sentence that names a boundary. */
public final class AgesEdgesTest {
    private static final int MIN = Integer.MIN_VALUE;
    private static final int MAX = Integer.MAX_VALUE;
    private static final int[] LEASTS = {-128, -32768, Integer.MIN_VALUE};

    public static void main(String[] args) {
        agesRefusals();
        agesFrom0To120();
        agesOfEmptyRow();
        agesNone();
        agesLeastNumberIsSkipped();
        agesOnDay0();
        agesOfFullRow();
        agesOfHisAlone();
        whatIsRefusals();
        whatIsKinds();
        whatIsFigures();
        whatIsLikewise();
        whatIsOfFullRow();
        twoRanges();
        twoFirstPair();
        twoByAnotherChoiceAlone();
        fogRanges();
        fogOfNoDays();
        fogOdds();
        fogLeastTerms();
        fogNobodyGoes();
        meanParts();
        meanEdges();
        sharesRanges();
        sharesEdges();
        askingChangesNothing();
        Check.end("AgesEdgesTest");
    }

    private static void agesAre(String call, HillsLieDown x, int w, int many, int least, int greatest) {
        Check.due(call + ": how many", x.ages(0, w, 0), many);
        Check.due(call + ": the least", x.ages(0, w, 1), least);
        Check.due(call + ": the greatest", x.ages(0, w, 2), greatest);
    }

    /** "-1, -11, -12 (no ROW)": the first one as they are told. */
    private static void agesRefusals() {
        HillsLieDown x = new HillsLieDown();
        x.row(7, Check.BYTES, 0);
        Check.due("nobody", x.ages(7, 0, 0), -1);
        for (int w = 0; w < 6; w++) {
            Check.bring(x, Check.WALKER, 0, 60, 7);
        }
        x.row(7, Check.BYTES, 0);
        x.keep(1, 1, Check.WALKER, 0);
        Check.due("the first one, the first what", x.ages(7, 0, 0), 121);
        Check.due("the last one, the last what", x.ages(7, 5, 2), 120);
        Check.due("nothing", x.ages(0, 0, 0), -11);
        Check.due("no ROW", x.ages(1, 0, 0), -12);
        for (int d : new int[] {0, 1, 7}) {
            Check.dueAll("no such one", -1, x.ages(d, -1, 0), x.ages(d, 6, 0), x.ages(d, MIN, 0), x.ages(d, MAX, 0));
            Check.dueAll("no such what", -1, x.ages(d, 0, -1), x.ages(d, 0, 3), x.ages(d, 0, MIN), x.ages(d, 0, MAX));
        }
        Check.dueAll("no such SHELF", -1, x.ages(-1, 0, 0), x.ages(8, 0, 0), x.ages(MIN, 0, 0), x.ages(MAX, 0, 0));
    }

    /** "how many AGES (0 .. 120)": the first and the last count. */
    private static void agesFrom0To120() {
        HillsLieDown x = Check.flat(20);
        Check.bring(x, Check.WALKER, 0, 60, 7);
        Check.bring(x, Check.SLEEPER, 0, 60, 3);
        Check.bring(x, Check.YOUNG, 0, 60, 11);
        for (int press = 0; press < 8; press++) {
            Check.rowOf(x, 0, Check.BYTES, 20 - press);
            int least = press == 0 ? 0 : 60 + 10 * press;
            int greatest = Math.min(120, 69 + 10 * press);
            boolean isSome = press < 7;
            agesAre("a WALKER who PRESSES " + press, x, 0, isSome ? greatest - least + 1 : 0, isSome ? least : -4,
                isSome ? greatest : -4);
        }
        Check.rowOf(x, 0, Check.BYTES, 20);
        agesAre("a SLEEPER who PRESSES nothing", x, 1, 60, 0, 59);
        agesAre("a YOUNG one", x, 2, 121, 0, 120);
        Check.rowOf(x, 0, Check.BYTES, 18);
        agesAre("a SLEEPER who PRESSES 2", x, 1, 10, 60, 69);
        Check.rowOf(x, 0, Check.BYTES, 12);
        agesAre("a SLEEPER who PRESSES 8", x, 1, 1, 120, 120);
    }

    /** "A ROW has .. 0 .. 100 elements": one of 0 tells nothing, so each AGE is so. */
    private static void agesOfEmptyRow() {
        HillsLieDown x = new HillsLieDown();
        Check.bring(x, Check.DEAD, 0, 120, 7);
        for (int sort = 0; sort < 3; sort++) {
            x.row(0, sort, 0);
            agesAre("SORT " + sort, x, 0, 121, 0, 120);
        }
    }

    /** "(-4 none)". */
    private static void agesNone() {
        HillsLieDown x = new HillsLieDown();
        Check.bring(x, Check.WALKER, 0, 60, 7);
        for (int v : new int[] {6, 21, -1, 127, -127}) {
            for (int sort = 0; sort < 3; sort++) {
                Check.rowOf(x, 0, sort, v);
                agesAre("GROUND " + v, x, 0, 0, -4, -4);
            }
        }
        Check.rowOf(x, 0, Check.INTS, 5 + 256);
        agesAre("another number of INTS", x, 0, 0, -4, -4);
        Check.rowOf(x, 0, Check.BYTES, 5 + 256);
        agesAre("the same one of BYTES", x, 0, 70, 0, 69);
    }

    /** "(the least number of the SORT is skipped)", of that SORT alone, and the next one is not. */
    private static void agesLeastNumberIsSkipped() {
        HillsLieDown x = new HillsLieDown();
        Check.bring(x, Check.WALKER, 0, 60, 7);
        for (int sort = 0; sort < 3; sort++) {
            for (int least = 0; least <= sort; least++) {
                boolean isSkipped = least == sort;
                Check.rowOf(x, 0, sort, LEASTS[least], 4);
                agesAre("SORT " + sort + " " + LEASTS[least], x, 0, isSkipped ? 10 : 0, isSkipped ? 70 : -4, isSkipped ? 79 : -4);
                Check.rowOf(x, 0, sort, LEASTS[least]);
                agesAre("SORT " + sort + " " + LEASTS[least], x, 0, isSkipped ? 121 : 0, isSkipped ? 0 : -4, isSkipped ? 120 : -4);
            }
            Check.rowOf(x, 0, sort, LEASTS[sort] + 1, 4);
            agesAre("1 more than the least", x, 0, 0, -4, -4);
            Check.rowOf(x, 0, sort, LEASTS[sort] - 1, 4);
            agesAre("the greatest", x, 0, 0, -4, -4);
            Check.rowOf(x, 0, sort, 4, LEASTS[sort], LEASTS[sort], 4);
            agesAre("in the middle", x, 0, 10, 70, 79);
            Check.rowOf(x, 0, sort, 4, LEASTS[sort]);
            agesAre("at the end", x, 0, 10, 70, 79);
        }
        // What is put in keeps its lowest bits: so it may become the least number.
        Check.rowOf(x, 0, Check.BYTES, 128, 4);
        agesAre("128 as a byte", x, 0, 10, 70, 79);
        Check.rowOf(x, 0, Check.SHORTS, 32768, 4);
        agesAre("32768 as a short", x, 0, 10, 70, 79);
        Check.rowOf(x, 0, Check.INTS, 32768, 4);
        agesAre("32768 as an int", x, 0, 0, -4, -4);
    }

    /** "behind 0, 1, .. DAYS": element 0 is of now, element 1 of a DAY on. */
    private static void agesOnDay0() {
        HillsLieDown x = new HillsLieDown();
        Check.heights(x, 5, 6, 7, 9);
        Check.bring(x, Check.WALKER, 0, 60, 0);
        x.turns(0, 2);
        Check.rowOf(x, 0, Check.BYTES, 5);
        agesAre("now", x, 0, 70, 0, 69);
        Check.rowOf(x, 0, Check.BYTES, 5, 6, 7, 9, 5, 5);
        agesAre("over the hill", x, 0, 70, 0, 69);
        Check.rowOf(x, 0, Check.BYTES, 4, 5, 6, 6, 6, 6);
        agesAre("ahead of it", x, 0, 10, 70, 79);
        Check.rowOf(x, 0, Check.BYTES, -128, -128, -128, -128, 5);
        agesAre("whoever is over it, or has a hole of 5 for ever", x, 0, 70, 0, 69);
        Check.rowOf(x, 0, Check.BYTES, -128, 3);
        agesAre("2 up for one who PRESSES 2 is 3 up", x, 0, 10, 80, 89);
    }

    /** A ROW of 100 elements goes up to 99 DAYS on: so it has been there. */
    private static void rowOfSlowCountry(HillsLieDown x, int sort) {
        HillsLieDown y = Check.slowCountry();
        x.row(0, sort, 100);
        for (int i = 0; i < 100; i++) {
            x.put(0, i, y.ground(y.walker(0, 3)));
            y.days(1);
        }
    }

    private static void agesOfFullRow() {
        for (int sort = 0; sort < 3; sort++) {
            HillsLieDown x = Check.slowCountry();
            rowOfSlowCountry(x, sort);
            agesAre("100 elements", x, 0, 10, 70, 79);
            for (int i : new int[] {0, 59, 60, 61, 63, 64, 98, 99}) {
                int was = (int) Check.elementOrThrown(x, 0, i);
                x.put(0, i, was + 1);
                agesAre("element " + i + " is not so", x, 0, 0, -4, -4);
                x.put(0, i, LEASTS[sort]);
                agesAre("element " + i + " is skipped", x, 0, 10, 70, 79);
                x.put(0, i, was);
            }
        }
    }

    /** "AGES .. of his": who else is there is as old as he is. */
    private static void agesOfHisAlone() {
        HillsLieDown x = Check.flat(20);
        Check.bring(x, Check.WALKER, 0, 80, 7);
        Check.bring(x, Check.WALKER, 0, 90, 7);
        Check.rowOf(x, 0, Check.BYTES, 15);
        agesAre("with one who PRESSES 3", x, 0, 10, 80, 89);
        agesAre("with one who PRESSES 2", x, 1, 10, 90, 99);
        Check.rowOf(x, 0, Check.BYTES, 18);
        agesAre("with one who PRESSES 3", x, 0, 0, -4, -4);
        agesAre("with one who PRESSES 2", x, 1, 70, 0, 69);
    }

    /** "-1, -11, -12": the first one as they are told. */
    private static void whatIsRefusals() {
        HillsLieDown x = new HillsLieDown();
        x.row(7, Check.BYTES, 0);
        Check.due("nobody", x.whatIs(7, 0, 0), -1);
        for (int w = 0; w < 6; w++) {
            Check.bring(x, Check.WALKER, 0, 60, 7);
        }
        x.row(7, Check.BYTES, 0);
        x.keep(1, 1, Check.WALKER, 0);
        Check.due("the first one, the first what", x.whatIs(7, 0, 0), 255);
        Check.due("the last one, the last what", x.whatIs(7, 5, 1), 1023);
        Check.due("nothing", x.whatIs(0, 0, 0), -11);
        Check.due("no ROW", x.whatIs(1, 0, 0), -12);
        for (int d : new int[] {0, 1, 7}) {
            Check.dueAll("no such one", -1, x.whatIs(d, -1, 0), x.whatIs(d, 6, 0), x.whatIs(d, MIN, 0), x.whatIs(d, MAX, 0));
            Check.dueAll("no such what", -1, x.whatIs(d, 0, -1), x.whatIs(d, 0, 2), x.whatIs(d, 0, MIN), x.whatIs(d, 0, MAX));
        }
        Check.dueAll("no such SHELF", -1, x.whatIs(-1, 0, 0), x.whatIs(8, 0, 0), x.whatIs(MIN, 0, 0), x.whatIs(MAX, 0, 0));
    }

    /** "KINDS (bits) of him": 0 .. 7. */
    private static void whatIsKinds() {
        HillsLieDown x = Check.flat(20);
        Check.bring(x, Check.WALKER, 9, 120, 7);
        // With 9, of 120: 6, 5, 6, 8, 16, 8, 7, 0.
        int[] presses = {0, 5, 6, 7, 8, 16, 4, 17};
        int[] bits = {1 << 7, 1 << 1, 1 | 1 << 2, 1 << 6, 1 << 3 | 1 << 5, 1 << 4, 0, 0};
        for (int i = 0; i < presses.length; i++) {
            Check.rowOf(x, 0, Check.BYTES, 20 - presses[i]);
            Check.due("who PRESSES " + presses[i], x.whatIs(0, 0, 0), bits[i]);
        }
        x.row(0, Check.INTS, 0);
        Check.due("all of them", x.whatIs(0, 0, 0), 255);
    }

    /** "FIGURES (bits 0 .. 9)". */
    private static void whatIsFigures() {
        HillsLieDown x = new HillsLieDown();
        Check.bring(x, Check.AUNT, 5, 0, 7);
        int[] bits = {0b0000000111, 0b0000111000, 0b0111000000, 0b1000000000, 0};
        for (int press = 0; press < 5; press++) {
            Check.rowOf(x, 0, Check.BYTES, 5 - press);
            Check.due("who PRESSES " + press, x.whatIs(0, 0, 1), bits[press]);
        }
        x.row(0, Check.SHORTS, 0);
        Check.due("all of them", x.whatIs(0, 0, 1), 1023);
        // By STRIDE: up 3 goes any YOUNG one, up 6 the last alone.
        int[] ups = {3, 4, 5, 6, 7};
        int[] who = {0b1111111111, 0b1111111000, 0b1111000000, 0b1000000000, 0};
        for (int i = 0; i < ups.length; i++) {
            HillsLieDown y = new HillsLieDown();
            Check.bring(y, Check.YOUNG, 0, 0, 3);
            y.turns(0, 2);
            y.raises(4, 5 + ups[i]);
            Check.rowOf(y, 0, Check.BYTES, -128, 5 + ups[i]);
            Check.due("who goes up " + ups[i], y.whatIs(0, 0, 1), who[i]);
        }
    }

    /** "the ROW likewise": the least number of the SORT is skipped here, too. */
    private static void whatIsLikewise() {
        HillsLieDown x = Check.flat(20);
        Check.bring(x, Check.WALKER, 9, 120, 7);
        for (int sort = 0; sort < 3; sort++) {
            Check.rowOf(x, 0, sort, LEASTS[sort], 13);
            Check.due("KINDS", x.whatIs(0, 0, 0), 1 << 6);
            Check.rowOf(x, 0, sort, LEASTS[sort]);
            Check.due("KINDS", x.whatIs(0, 0, 0), 255);
            Check.due("FIGURES", x.whatIs(0, 0, 1), 1023);
            Check.rowOf(x, 0, sort, LEASTS[sort] + 1);
            Check.due("KINDS", x.whatIs(0, 0, 0), 0);
            Check.due("FIGURES", x.whatIs(0, 0, 1), 0);
        }
        Check.rowOf(x, 0, Check.SHORTS, -128, 13);
        Check.due("-128 is not the least short", x.whatIs(0, 0, 0), 0);
        Check.rowOf(x, 0, Check.INTS, -32768, 13);
        Check.due("-32768 is not the least int", x.whatIs(0, 0, 0), 0);
    }

    private static void whatIsOfFullRow() {
        HillsLieDown x = Check.slowCountry();
        rowOfSlowCountry(x, Check.BYTES);
        // Of 70, a HIDER goes as a WALKER does, and his FIGURE does not matter.
        Check.due("KINDS", x.whatIs(0, 0, 0) & 0b101, 0b101);
        Check.due("FIGURES", x.whatIs(0, 0, 1), 1023);
        for (int i : new int[] {0, 60, 61, 99}) {
            int was = (int) Check.elementOrThrown(x, 0, i);
            x.put(0, i, was + 1);
            Check.due("element " + i + " is not so", x.whatIs(0, 0, 1), 0);
            x.put(0, i, was);
        }
    }

    /** "-1 (one twice)". */
    private static void twoRanges() {
        HillsLieDown x = new HillsLieDown();
        Check.dueAll("nobody", -1, x.two(0, 1), x.two(0, 0));
        for (int w = 0; w < 6; w++) {
            Check.bring(x, Check.WALKER, 0, 60, 7);
        }
        Check.dueAll("the first and the last", 0, x.two(0, 5), x.two(5, 0), x.two(0, 1), x.two(4, 5));
        for (int w = 0; w < 6; w++) {
            Check.due("one twice", x.two(w, w), -1);
            Check.dueAll("no such one", -1, x.two(w, -1), x.two(w, 6), x.two(-1, w), x.two(6, w), x.two(w, MAX),
                x.two(MIN, w));
        }
        Check.dueAll("none of them", -1, x.two(6, 7), x.two(-1, -2), x.two(MIN, MAX), x.two(6, 6));
    }

    /** "the first pair (10 the one's and the other's) by which neither has less by another choice alone". */
    private static void twoFirstPair() {
        HillsLieDown x = new HillsLieDown();
        Check.bring(x, Check.WALKER, 0, 60, 3);
        Check.bring(x, Check.WALKER, 0, 60, 9);
        Check.due("all is one to them: both stay", x.two(0, 1), 0);
        x.raises(9, 4);
        Check.due("the one goes over", x.two(0, 1), 10);
        Check.due("the other one goes over", x.two(1, 0), 1);
        x.raises(9, 6);
        Check.due("the other one goes over", x.two(0, 1), 1);
        Check.due("the one goes over", x.two(1, 0), 10);
        // Both PRESS 2, and alike it is: the first pair is that by which they are together.
        HillsLieDown y = new HillsLieDown();
        Check.bring(y, Check.WALKER, 0, 80, 3);
        Check.bring(y, Check.WALKER, 0, 80, 9);
        Check.due("together, at the one's", y.two(0, 1), 1);
        Check.due("together, at the one's", y.two(1, 0), 1);
        // GROUND 0 is least anywhere.
        HillsLieDown z = Check.flat(0);
        Check.bring(z, Check.WALKER, 0, 120, 3);
        Check.bring(z, Check.WALKER, 0, 120, 9);
        Check.due("none has less than 0", z.two(0, 1), 0);
        z.moves(1, 3);
        Check.due("in one CELL both choices are the same", z.two(0, 1), 0);
    }

    /** "each would have least GROUND under him", "at once": one goes where the other one is, or was. */
    private static void twoByAnotherChoiceAlone() {
        // The one PRESSES 4, the other nothing: the other follows him, and both are well off in either CELL.
        HillsLieDown x = new HillsLieDown();
        Check.bring(x, Check.WALKER, 0, 100, 3);
        Check.bring(x, Check.WALKER, 0, 60, 9);
        Check.due("the other one comes", x.two(0, 1), 1);
        x.raises(9, 4);
        Check.due("the one goes, the other one stays", x.two(0, 1), 10);
        x.raises(9, 6);
        x.raises(3, 7);
        Check.due("6 less 4 is less than 7 less 4", x.two(0, 1), 10);
        Check.due("as it was", x.walker(0, 3), 3);
        // Both PRESS 2: together at the one's (1 high), unless the other's is lower for one alone.
        HillsLieDown y = new HillsLieDown();
        Check.bring(y, Check.WALKER, 0, 80, 3);
        Check.bring(y, Check.WALKER, 0, 80, 9);
        int[] due = {10, 10, 1, 1, 1, 1, 1, 1, 1};
        for (int v = 1; v < 10; v++) {
            y.raises(9, v);
            Check.due("5 and " + v, y.two(0, 1), due[v - 1]);
        }
    }

    /** "-1": of longs 1000000001. */
    private static void fogRanges() {
        HillsLieDown x = new HillsLieDown();
        long no = 1000000001L;
        Check.due("nobody", x.fog(0, 0, 0, 2, 0), no);
        for (int w = 0; w < 6; w++) {
            Check.bring(x, Check.WALKER, 0, 60, w == 0 ? 0 : 14);
        }
        Check.due("the first of all", x.fog(0, 0, 0, 2, 0), 1);
        Check.due("the last of all", x.fog(5, 14, 7, 20, 1), 1);
        Check.dueAll("no such one", no, x.fog(-1, 0, 0, 2, 0), x.fog(6, 0, 0, 2, 0), x.fog(MIN, 0, 0, 2, 0), x.fog(MAX, 0, 0, 2, 0));
        Check.dueAll("no such CELL", no, x.fog(0, -1, 0, 2, 0), x.fog(0, 15, 0, 2, 0), x.fog(0, MIN, 0, 2, 0), x.fog(0, MAX, 0, 2, 0));
        Check.dueAll("no such n", no, x.fog(0, 0, -1, 2, 0), x.fog(0, 0, 8, 2, 0), x.fog(0, 0, MIN, 2, 0), x.fog(0, 0, MAX, 2, 0));
        Check.dueAll("no such t", no, x.fog(0, 0, 0, 1, 0), x.fog(0, 0, 0, 21, 0), x.fog(0, 0, 0, 0, 0), x.fog(0, 0, 0, MIN, 0),
            x.fog(0, 0, 0, MAX, 0));
        Check.dueAll("no such part", no, x.fog(0, 0, 0, 2, -1), x.fog(0, 0, 0, 2, 2), x.fog(0, 0, 0, 2, MIN), x.fog(0, 0, 0, 2, MAX));
    }

    private static void fogIs(HillsLieDown x, int w, int cell, int n, int t, long above, long below) {
        String call = "fog(" + w + ", " + cell + ", " + n + ", " + t + ")";
        Check.due(call + " above", x.fog(w, cell, n, t, 0), above);
        Check.due(call + " below", x.fog(w, cell, n, t, 1), below);
    }

    /** "each of n DAYS (0 .. 7)": behind none of them he is where he is. */
    private static void fogOfNoDays() {
        HillsLieDown x = new HillsLieDown();
        Check.bring(x, Check.WALKER, 0, 60, 7);
        x.turns(0, 2);
        for (int cell = 0; cell < 15; cell++) {
            fogIs(x, 0, cell, 0, 2, cell == 7 ? 1 : 0, 1);
            fogIs(x, 0, cell, 0, 20, cell == 7 ? 1 : 0, 1);
        }
    }

    /** "nobody goes with odds 1 in t (2 .. 20)". */
    private static void fogOdds() {
        HillsLieDown x = new HillsLieDown();
        Check.bring(x, Check.WALKER, 0, 60, 7);
        x.turns(0, 2);
        for (int t = 2; t <= 20; t++) {
            fogIs(x, 0, 7, 1, t, 1, t);
            fogIs(x, 0, 8, 1, t, t - 1, t);
            long below = 1;
            long above = 1;
            for (int i = 0; i < 7; i++) {
                below *= t;
                above *= t - 1;
            }
            fogIs(x, 0, 7, 7, t, 1, below);
            fogIs(x, 0, 14, 7, t, above, below);
            fogIs(x, 0, 6, 7, t, 0, 1);
        }
        // Of seven DAYS at 1 in 2: 1 7 21 35 35 21 7 1 of 128.
        int[] ways = {1, 7, 21, 35, 35, 21, 7, 1};
        for (int clear = 0; clear < 8; clear++) {
            fogIs(x, 0, 7 + clear, 7, 2, ways[clear], 128);
        }
    }

    /** "a fraction in least terms". */
    private static void fogLeastTerms() {
        HillsLieDown x = new HillsLieDown();
        Check.bring(x, Check.WALKER, 0, 60, 12);
        fogIs(x, 0, 12, 7, 20, 1, 1);
        fogIs(x, 0, 0, 7, 20, 0, 1);
        x.turns(0, 2);
        // Twice at 1 in 2: 1, 2, 1 of 4.
        fogIs(x, 0, 13, 2, 2, 1, 2);
        fogIs(x, 0, 14, 2, 2, 1, 4);
        fogIs(x, 0, 14, 3, 2, 1, 2);
        // Three at 1 in 3: 1, 6, 12 and 8 of 27.
        fogIs(x, 0, 12, 3, 3, 1, 27);
        fogIs(x, 0, 13, 3, 3, 2, 9);
        fogIs(x, 0, 14, 3, 3, 20, 27);
        // On the edge he stays, whatever comes: all but those with less than 2 clear of 7 DAYS.
        fogIs(x, 0, 14, 7, 20, (1280000000L - 1 - 7 * 19) / 2, 640000000L);
    }

    /** "nobody goes": who waits for another one waits a DAY with fog longer. */
    private static void fogNobodyGoes() {
        HillsLieDown x = new HillsLieDown();
        x.raises(5, 8);
        x.raises(6, 8);
        Check.bring(x, Check.WALKER, 0, 60, 4);
        Check.bring(x, Check.WALKER, 0, 70, 6);
        x.turns(0, 2);
        x.turns(1, 1);
        // 1 goes upon the hill on the first clear DAY, 0 on the second.
        fogIs(x, 0, 5, 1, 2, 0, 1);
        fogIs(x, 0, 5, 2, 2, 1, 4);
        fogIs(x, 0, 4, 2, 2, 3, 4);
        fogIs(x, 1, 5, 2, 2, 1, 2);
        fogIs(x, 1, 4, 2, 2, 1, 4);
    }

    /** "part likewise. Refused as told: -1." */
    private static void meanParts() {
        HillsLieDown x = new HillsLieDown();
        Check.due("above", x.mean(0), 5);
        Check.due("below", x.mean(1), 1);
        Check.dueAll("no such part", 1000000001L, x.mean(-1), x.mean(2), x.mean(MIN), x.mean(MAX));
    }

    /** "MEAN GROUND of all CELLS: a fraction in least terms": from 0 to 20. */
    private static void meanEdges() {
        for (int v = 0; v <= 20; v += 5) {
            HillsLieDown x = Check.flat(v);
            Check.due("of " + v + " above", x.mean(0), v);
            Check.due("of " + v + " below", x.mean(1), 1);
        }
        HillsLieDown x = Check.flat(0);
        int[] above = {1, 2, 1, 4, 1, 2, 7, 8, 3, 2, 11, 4, 13, 14, 1, 16};
        int[] below = {15, 15, 5, 15, 3, 5, 15, 15, 5, 3, 15, 5, 15, 15, 1, 15};
        for (int all = 1; all <= 16; all++) {
            x.raises(all < 9 ? 0 : 14, all < 9 ? all : all - 8);
            Check.due("of " + all + " above", x.mean(0), above[all - 1]);
            Check.due("of " + all + " below", x.mean(1), below[all - 1]);
        }
        Check.bring(x, Check.WALKER, 0, 120, 14);
        Check.due("by GROUND", x.mean(0), 2);
        Check.due("by GROUND", x.mean(1), 3);
        Check.bring(x, Check.DEAD, 0, 120, 0);
        Check.due("by GROUND, 0 at least", x.mean(0), 2);
        Check.due("by GROUND, 0 at least", x.mean(1), 15);
    }

    /** "n families (1 .. 9)", "DAYS (0 .. 99)", "family i (0 .. n less 1)": "-1". */
    private static void sharesRanges() {
        HillsLieDown x = new HillsLieDown();
        Check.dueAll("no such n", -1, x.shares(0, 9, 0), x.shares(10, 9, 0), x.shares(-1, 9, 0), x.shares(MIN, 9, 0), x.shares(MAX, 9, 0));
        Check.dueAll("no such DAYS", -1, x.shares(3, -1, 0), x.shares(3, 100, 0), x.shares(3, MIN, 0), x.shares(3, MAX, 0));
        for (int n = 1; n <= 9; n++) {
            Check.due("the last family", x.shares(n, n, n - 1), 1);
            Check.dueAll("no such family", -1, x.shares(n, n, -1), x.shares(n, n, n), x.shares(n, n, MIN), x.shares(n, n, MAX));
        }
    }

    /** "have one by turns, a DAY each": from none to 99. */
    private static void sharesEdges() {
        HillsLieDown x = new HillsLieDown();
        for (int n = 1; n <= 9; n++) {
            int all = 0;
            for (int i = 0; i < n; i++) {
                Check.due("of no DAYS", x.shares(n, 0, i), 0);
                Check.due("of one DAY", x.shares(n, 1, i), i == 0 ? 1 : 0);
                Check.due("of a DAY less than all", x.shares(n, n - 1, i), i < n - 1 ? 1 : 0);
                Check.due("of a DAY each", x.shares(n, n, i), 1);
                Check.due("of a DAY more", x.shares(n, n + 1, i), i == 0 ? 2 : 1);
                all += x.shares(n, 99, i);
            }
            Check.due("all of 99 DAYS", all, 99);
        }
        Check.due("one family", x.shares(1, 99, 0), 99);
        Check.due("the first of nine", x.shares(9, 99, 0), 11);
        Check.due("the last of nine", x.shares(9, 98, 8), 10);
    }

    private static void askingChangesNothing() {
        HillsLieDown x = Check.slowCountry();
        rowOfSlowCountry(x, Check.BYTES);
        String before = Check.seen(x);
        x.ages(0, 0, 0);
        x.ages(0, 3, 1);
        x.whatIs(0, 0, 0);
        x.whatIs(0, 4, 1);
        x.two(0, 1);
        x.fog(0, 4, 7, 3, 0);
        x.mean(0);
        x.shares(3, 9, 1);
        Check.same("nothing changes", Check.seen(x), before);
        Check.due("the ROW stays", x.ages(0, 0, 0), 10);
    }
}
