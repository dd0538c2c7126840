/** Promises 1 to 9: the country as told. */
public final class CountryTest {
    private static final int[] OUTSIDE_SHELVES = {-1, 8, Integer.MIN_VALUE, Integer.MAX_VALUE};
    private static final int[] OUTSIDE_CELLS = {-1, 15, Integer.MIN_VALUE, Integer.MAX_VALUE};

    public static void main(String[] args) {
        newObject();
        countryComes();
        faultsOfKind1();
        faultsOfKind2();
        countryRefusals();
        walkerByKinds();
        walkerWaysAndRefusals();
        heightAndRaises();
        comes();
        movesAndTurns();
        days();
        Check.end("CountryTest");
    }

    private static void newObject() {
        HillsLieDown x = new HillsLieDown();
        for (int cell = 0; cell < 15; cell++) {
            Check.due("height", x.height(cell), 5);
            Check.due("ground", x.ground(cell), 5);
        }
        for (int d = 0; d < 8; d++) {
            Check.due("cost", x.cost(d), -11);
        }
        Check.due("walkers", x.count(0), 0);
        Check.due("day", x.count(1), 0);
        Check.due("restore", x.restore(), -3);
    }

    private static void countryComes() {
        HillsLieDown x = new HillsLieDown();
        Check.due("country", Check.tell(x, "g0720;w7906003;m005;y02;d03;"), 5);
        Check.due("height", x.height(7), 20);
        Check.due("kind", x.walker(0, 0), 7);
        Check.due("figure", x.walker(0, 1), 9);
        Check.due("age", x.walker(0, 2), 60);
        Check.due("at", x.walker(0, 3), 6);
        Check.due("way", x.walker(0, 4), 2);
        Check.due("day", x.count(1), 3);
        // What comes is added to what there is.
        Check.due("country", Check.tell(x, "w0012014;y11;y00;"), 3);
        Check.due("walkers", x.count(0), 2);
        Check.due("age", x.walker(1, 2), 120);
        Check.due("at", x.walker(1, 3), 14);
        Check.due("ways", x.count(4), 2);
        Check.due("height", x.height(7), 20);
        Check.due("the row stays", Check.elementOrThrown(x, 6, 0), 'w');
        Check.due("country again", x.country(6), 3);
        Check.due("country", Check.tell(x, "m112;m213;y11;y22;"), 4);
        Check.due("at", x.walker(1, 3), 12);
        Check.due("at", x.walker(2, 3), 13);
        Check.due("way", x.walker(1, 4), 1);
        Check.due("way", x.walker(2, 4), 2);
        Check.due("walkers", x.count(0), 3);
    }

    private static void faultsOfKind1() {
        String[] texts = {"", "x", "G0105;", "g", "g0", "g0105", "g0105,", "g01/5;", "g01:5;", "g 105;",
            "g0105;;", "g0105;x", "g0105;g01", "w000600;", "w00060000;", "m00;", "m0000;", "y0;", "y000;",
            "d1;", "d001;", "g9999;d", "d01;y00;m000;w9999999;q", "d01; d01;"};
        int[] places = {0, 0, 0, 1, 2, 5, 5, 3, 3, 1,
            6, 6, 9, 7, 8, 3, 4, 2, 3,
            2, 3, 7, 22, 4};
        for (int i = 0; i < texts.length; i++) {
            HillsLieDown x = new HillsLieDown();
            Check.due("country \"" + texts[i] + "\"", Check.tell(x, texts[i]), -1000 - places[i]);
            Check.due("nothing came", 1000 * x.count(0) + 100 * x.count(1) + x.count(2), 75);
        }
        HillsLieDown x = new HillsLieDown();
        Check.rowOf(x, 0, Check.BYTES, 'g' + 128, '0');
        Check.due("country of a byte below 0", x.country(0), -1000);
        Check.due("row", x.row(0, Check.BYTES, 100), 0);
        Check.due("country of zeros", x.country(0), -1000);
        for (int i = 0; i < 100; i++) {
            x.put(0, i, "d01;".charAt(i % 4));
        }
        Check.due("country of 100 bytes", x.country(0), 25);
        x.put(0, 99, '0');
        Check.due("country of 100 bytes", x.country(0), -1099);
        for (int i = 0; i < 100; i++) {
            x.put(0, i, "g0105;".charAt(i % 6));
        }
        Check.due("country that lacks something behind 100 bytes", x.country(0), -1100);
    }

    private static void faultsOfKind2() {
        String one = "g0009;w0006000;";
        String[] second = {"g1505;", "g0021;", "g9999;", "w8006000;", "w9006000;", "w0012100;", "w0006015;",
            "m100;", "m015;", "y11;", "y03;", "y09;", "d00;", "d61;", "d99;"};
        for (int i = 0; i < second.length; i++) {
            HillsLieDown x = new HillsLieDown();
            Check.due("country \"" + second[i] + "\"", Check.tell(x, one + second[i]), -2015);
            Check.due("nothing came", x.count(0), 0);
            Check.due("nothing came", x.height(0), 5);
            Check.due("the first one is told", Check.tell(x, second[i] + second[i]), -2000);
        }
        HillsLieDown x = new HillsLieDown();
        String six = "w0000000;w1111101;w2212002;w3306003;w4400004;w5505005;";
        Check.due("a seventh", Check.tell(x, six + "w0000000;"), -2054);
        Check.due("nobody came", x.count(0), 0);
        Check.due("six", Check.tell(x, six), 6);
        Check.due("no room", Check.tell(x, "w0000000;"), -2000);
        Check.due("days", Check.tell(x, "d60;d60;d60;d60;d60;d60;d60;d60;d60;d60;d60;d60;d60;d60;d60;d60;"), 16);
        Check.due("above 999", Check.tell(x, "d39;d01;"), -2004);
        Check.due("day", x.count(1), 960);
        Check.due("above 999", Check.tell(x, "d40;"), -2000);
        Check.due("just 999", Check.tell(x, "d39;"), 1);
        Check.due("day", x.count(1), 999);
    }

    private static void countryRefusals() {
        HillsLieDown x = new HillsLieDown();
        for (int d : OUTSIDE_SHELVES) {
            Check.due("country", x.country(d), -1);
        }
        Check.due("country of nothing", x.country(0), -11);
        x.keep(0, 1, Check.WALKER, 1);
        Check.due("country of a KIND", x.country(0), -12);
        x.row(0, Check.SHORTS, 3);
        Check.due("country of shorts", x.country(0), -12);
        x.row(0, Check.INTS, 0);
        Check.due("country of ints", x.country(0), -12);
    }

    private static void walkerByKinds() {
        // KIND, FIGURE, AGE, then PRESSES, STRIDE, SHOWS, SPREADS.
        int[][] ones = {
            {Check.WALKER, 9, 59, 0, 2, 59, 0}, {Check.WALKER, 0, 60, 0, 2, 60, 0},
            {Check.WALKER, 0, 69, 0, 2, 69, 0}, {Check.WALKER, 0, 70, 1, 2, 70, 0},
            {Check.WALKER, 0, 0, 0, 2, 0, 0}, {Check.WALKER, 9, 120, 6, 2, 120, 0},
            {Check.RIDER, 9, 60, 0, 1, 60, 1}, {Check.RIDER, 9, 70, 0, 1, 70, 1},
            {Check.RIDER, 9, 85, 1, 1, 85, 1}, {Check.RIDER, 0, 0, 0, 1, 0, 1},
            {Check.HIDER, 3, 99, 3, 2, 86, 0}, {Check.HIDER, 9, 18, 0, 2, 0, 0},
            {Check.HIDER, 9, 20, 0, 2, 1, 0}, {Check.HIDER, 0, 120, 6, 2, 110, 0},
            {Check.SLEEPER, 5, 59, 0, 0, 59, 0}, {Check.SLEEPER, 5, 60, 2, 0, 60, 0},
            {Check.SLEEPER, 5, 120, 8, 0, 120, 0},
            {Check.DEAD, 5, 59, 0, 0, 59, 2}, {Check.DEAD, 5, 60, 4, 0, 60, 2},
            {Check.DEAD, 5, 119, 14, 0, 119, 2},
            {Check.AUNT, 2, 120, 5, 1, 120, 2}, {Check.AUNT, 8, 120, 7, 1, 120, 2},
            {Check.AUNT, 9, 0, 3, 1, 0, 2}, {Check.AUNT, 3, 70, 1, 1, 70, 2},
            {Check.TWIN, 0, 0, 1, 3, 0, 0}, {Check.TWIN, 4, 99, 4, 3, 42, 0}, {Check.TWIN, 9, 120, 7, 3, 50, 0},
            {Check.YOUNG, 0, 120, 0, 3, 120, 0}, {Check.YOUNG, 2, 9, 0, 3, 9, 0},
            {Check.YOUNG, 3, 9, 0, 4, 9, 0}, {Check.YOUNG, 9, 9, 0, 6, 9, 0}};
        for (int[] one : ones) {
            HillsLieDown x = new HillsLieDown();
            Check.due("comes", Check.bring(x, one[0], one[1], one[2], 4), 0);
            String who = "KIND " + one[0] + " FIGURE " + one[1] + " AGE " + one[2] + ": ";
            Check.due(who + "KIND", x.walker(0, 0), one[0]);
            Check.due(who + "FIGURE", x.walker(0, 1), one[1]);
            Check.due(who + "AGE", x.walker(0, 2), one[2]);
            Check.due(who + "AT", x.walker(0, 3), 4);
            Check.due(who + "WAY", x.walker(0, 4), 0);
            Check.due(who + "PRESSES", x.walker(0, 5), one[3]);
            Check.due(who + "STRIDE", x.walker(0, 6), one[4]);
            Check.due(who + "SHOWS", x.walker(0, 7), one[5]);
            Check.due(who + "SPREADS", x.walker(0, 8), one[6]);
        }
    }

    private static void walkerWaysAndRefusals() {
        HillsLieDown x = new HillsLieDown();
        Check.due("nobody", x.walker(0, 0), -1);
        Check.bring(x, Check.WALKER, 0, 60, 4);
        for (int way = 0; way < 3; way++) {
            x.turns(0, way);
            Check.due("WAY", x.walker(0, 4), way);
        }
        int[] outside = {-1, 1, 6, Integer.MIN_VALUE, Integer.MAX_VALUE};
        for (int w : outside) {
            Check.due("no such one", x.walker(w, 0), -1);
        }
        Check.dueAll("no such what", -1, x.walker(0, -1), x.walker(0, 9), x.walker(0, Integer.MAX_VALUE));
    }

    private static void heightAndRaises() {
        HillsLieDown x = new HillsLieDown();
        for (int cell : OUTSIDE_CELLS) {
            Check.due("height", x.height(cell), -1);
            Check.due("raises", x.raises(cell, 5), -1);
        }
        Check.due("raises", x.raises(0, 20), 5);
        Check.due("raises", x.raises(0, 0), 20);
        Check.due("raises", x.raises(14, 7), 5);
        Check.dueAll("raises out of range", -1, x.raises(0, -1), x.raises(0, 21), x.raises(0, Integer.MIN_VALUE));
        Check.due("height", x.height(0), 0);
        Check.due("height", x.height(14), 7);
        // HEIGHT is told without those who PRESS.
        Check.bring(x, Check.WALKER, 0, 120, 14);
        Check.due("height", x.height(14), 7);
    }

    private static void comes() {
        HillsLieDown x = new HillsLieDown();
        for (int d : OUTSIDE_SHELVES) {
            Check.due("no such shelf", x.comes(d, 0, 0), -1);
        }
        Check.due("nothing there", x.comes(0, 0, 0), -11);
        Check.dueAll("-1 ahead of -11", -1, x.comes(0, -1, 0), x.comes(0, 121, 0), x.comes(0, 0, -1), x.comes(0, 0, 15));
        x.row(0, Check.BYTES, 1);
        Check.due("a ROW", x.comes(0, 0, 0), -12);
        Check.due("-1 ahead of -12", x.comes(0, 121, 0), -1);
        x.keep(0, 1, Check.AUNT, 7);
        for (int w = 0; w < 6; w++) {
            Check.due("comes", x.comes(0, 20 * w, 14 - w), w);
            Check.due("age", x.walker(w, 2), 20 * w);
            Check.due("at", x.walker(w, 3), 14 - w);
        }
        Check.due("no room", x.comes(0, 0, 0), -2);
        Check.due("-1 ahead of -2", x.comes(0, 0, 15), -1);
        Check.due("-11 ahead of -2", x.comes(1, 0, 0), -11);
        x.row(1, Check.BYTES, 1);
        Check.due("-12 ahead of -2", x.comes(1, 0, 0), -12);
        Check.due("he stays on the SHELF", x.cost(0), 20);
    }

    private static void movesAndTurns() {
        HillsLieDown x = new HillsLieDown();
        Check.dueAll("nobody", -1, x.moves(0, 0), x.turns(0, 0));
        Check.bring(x, Check.WALKER, 0, 60, 4);
        Check.due("moves", x.moves(0, 14), 4);
        Check.due("moves", x.moves(0, 0), 14);
        Check.dueAll("moves", -1, x.moves(-1, 0), x.moves(1, 0), x.moves(0, -1), x.moves(0, 15));
        Check.due("at", x.walker(0, 3), 0);
        Check.due("turns", x.turns(0, 2), 0);
        Check.due("turns", x.turns(0, 1), 2);
        Check.due("turns", x.turns(0, 0), 1);
        Check.dueAll("turns", -1, x.turns(-1, 0), x.turns(1, 0), x.turns(0, -1), x.turns(0, 3));
        Check.due("way", x.walker(0, 4), 0);
    }

    private static void days() {
        HillsLieDown x = new HillsLieDown();
        Check.dueAll("days", -1, x.days(0), x.days(61), x.days(-1), x.days(Integer.MAX_VALUE), x.days(Integer.MIN_VALUE));
        Check.due("day", x.count(1), 0);
        // 0 goes up a step of 2 and not one of 3; on the edge his WAY ends a DAY after he came.
        Check.heights(x, 5, 7, 10, 5);
        Check.bring(x, Check.WALKER, 0, 60, 0);
        Check.bring(x, Check.YOUNG, 0, 10, 3);
        x.turns(0, 2);
        x.turns(1, 1);
        Check.due("days", x.days(1), 0);
        Check.due("at", x.walker(0, 3), 1);
        Check.due("5 high to 10 high is too much for the young one", x.walker(1, 3), 3);
        Check.due("his WAY is as it was", x.walker(1, 4), 1);
        x.raises(2, 8);
        Check.due("days", x.days(2), 0);
        Check.due("at", x.walker(0, 3), 3);
        Check.due("at", x.walker(1, 3), 1);
        x.days(1);
        Check.due("at", x.walker(1, 3), 0);
        Check.due("way", x.walker(1, 4), 1);
        x.days(1);
        Check.due("at", x.walker(1, 3), 0);
        Check.due("way", x.walker(1, 4), 0);
        Check.due("day", x.count(1), 5);
        // By numbers: 0 goes first and presses where 1 then stands beside.
        HillsLieDown y = new HillsLieDown();
        y.raises(5, 10);
        Check.bring(y, Check.WALKER, 0, 120, 6);
        Check.bring(y, Check.WALKER, 0, 60, 4);
        y.raises(6, 14);
        y.turns(0, 1);
        y.turns(1, 2);
        Check.due("all water: 4 between 5 and 14", y.days(1), 1);
        Check.due("0 steps down from 8 to 10", y.walker(0, 3), 5);
        Check.due("1 then finds 4 there and goes", y.walker(1, 3), 5);
        HillsLieDown z = new HillsLieDown();
        z.raises(3, 9);
        z.raises(6, 9);
        Check.due("all water", z.days(60), 8);
        for (int i = 0; i < 15; i++) {
            z.days(60);
        }
        Check.due("above 999", z.days(40), -3);
        Check.due("-1 ahead of -3", z.days(61), -1);
        Check.due("day", z.count(1), 960);
        Check.due("just 999", z.days(39), 8);
        Check.due("above 999", z.days(1), -3);
        Check.due("day", z.count(1), 999);
    }
}
