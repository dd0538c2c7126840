import java.util.Random;

/** Long random runs: each call answers as the Model does. Seeds are fixed, so each run is the same. */
public final class ModelTest {
    private static final int RUNS = 2000;
    /** What an object answers behind these is free. */
    private static final int MOST_CALLS = 512;
    /** No round makes more than these: a ROW of 100 elements, and what is asked of it. */
    private static final int CALLS_OF_A_ROUND = 110;

    private final HillsLieDown x = new HillsLieDown();
    private final Model model = new Model();
    private final Random random;
    private final int run;
    /** The higher, the more often an argument is out of its range. */
    private final int carelessness;
    private int made = 0;

    private ModelTest(int run) {
        this.run = run;
        this.random = new Random(run);
        this.carelessness = run % 3 == 0 ? 12 : 2;
    }

    public static void main(String[] args) {
        for (int run = 0; run < RUNS; run++) {
            ModelTest test = new ModelTest(run);
            if (run % 5 != 4) {
                test.settle();
            }
            while (test.made <= MOST_CALLS - CALLS_OF_A_ROUND) {
                test.call();
            }
            Check.due("no more than 512 calls", test.made <= MOST_CALLS ? 1 : 0, 1);
        }
        Check.end("ModelTest");
    }

    /** Hills and some who walk on them, so that not all runs are flat and empty. */
    private void settle() {
        int most = 3 + random.nextInt(18);
        for (int cell = 0; cell < 15; cell++) {
            int v = random.nextInt(most);
            due("raises", x.raises(cell, v), model.raises(cell, v));
        }
        int many = random.nextInt(7);
        for (int w = 0; w < many; w++) {
            int k = random.nextInt(8);
            int f = random.nextInt(10);
            int age = random.nextInt(3) == 0 ? random.nextInt(121) : 60 + random.nextInt(61);
            int cell = random.nextInt(15);
            int way = random.nextInt(3);
            due("keep", x.keep(7, 1, k, f), model.keep(7, 1, k, f));
            due("comes", x.comes(7, age, cell), model.comes(7, age, cell));
            due("turns", x.turns(w, way), model.turns(w, way));
        }
    }

    private void due(String call, long got, long want) {
        made++;
        Check.due("run " + run + ": " + call, got, want);
    }

    /** A number from least to greatest; now and then one outside. */
    private int number(int least, int greatest) {
        if (random.nextInt(100) >= carelessness) {
            return least + random.nextInt(greatest - least + 1);
        }
        switch (random.nextInt(5)) {
            case 0:
                return least - 1;
            case 1:
                return greatest + 1;
            case 2:
                return Integer.MIN_VALUE;
            case 3:
                return Integer.MAX_VALUE;
            default:
                return random.nextInt();
        }
    }

    private int shelf() {
        return number(0, 7);
    }

    private int cell() {
        return number(0, 14);
    }

    private int one() {
        int many = Math.max(1, model.count(0));
        return random.nextInt(30) == 0 ? number(0, 5) : number(0, many - 1);
    }

    private void call() {
        switch (random.nextInt(12)) {
            case 0:
                changeCountry();
                break;
            case 1:
                text();
                break;
            case 2:
            case 3:
                lookAtGround();
                break;
            case 4:
                lookAhead();
                break;
            case 5:
            case 6:
                whoGetsWhere();
                break;
            case 7:
                oddsAndShares();
                break;
            case 8:
                ages();
                break;
            case 9:
                toldRows();
                break;
            case 10:
                shelves();
                break;
            default:
                rows();
                break;
        }
    }

    private void changeCountry() {
        int w = one();
        int cell = cell();
        switch (random.nextInt(9)) {
            case 0: {
                int d = shelf();
                int age = number(0, 120);
                due("comes", x.comes(d, age, cell), model.comes(d, age, cell));
                break;
            }
            case 1:
            case 2: {
                int v = number(0, 20);
                due("raises", x.raises(cell, v), model.raises(cell, v));
                break;
            }
            case 3:
                due("moves", x.moves(w, cell), model.moves(w, cell));
                break;
            case 4:
            case 5: {
                int way = number(0, 2);
                due("turns", x.turns(w, way), model.turns(w, way));
                break;
            }
            case 6: {
                int n = random.nextInt(4) == 0 ? number(1, 60) : number(1, 5);
                due("days", x.days(n), model.days(n));
                break;
            }
            case 7:
                if (random.nextInt(3) == 0) {
                    due("image", x.image(), model.image());
                }
                break;
            default:
                if (random.nextInt(3) == 0) {
                    due("restore", x.restore(), model.restore());
                }
                break;
        }
        for (int what = 0; what < 6; what++) {
            due("count", x.count(what), model.count(what));
        }
    }

    private void text() {
        StringBuilder text = new StringBuilder();
        int many = random.nextInt(6);
        for (int i = 0; i < many; i++) {
            String[] forms = {"g%02d%02d;", "w%d%d%03d%02d;", "m%d%02d;", "y%d%d;", "d%02d;"};
            int[][] ranges = {{15, 21}, {8, 10, 121, 15}, {6, 15}, {6, 3}, {9}};
            int[][] widest = {{100, 100}, {10, 10, 1000, 100}, {10, 100}, {10, 10}, {100}};
            int form = random.nextInt(5);
            Object[] numbers = new Object[ranges[form].length];
            for (int k = 0; k < numbers.length; k++) {
                int[][] bounds = random.nextInt(40) == 0 ? widest : ranges;
                numbers[k] = random.nextInt(bounds[form][k]);
            }
            text.append(String.format(forms[form], numbers));
        }
        if (random.nextInt(6) == 0 && text.length() > 0) {
            text.setCharAt(random.nextInt(text.length()), ";gwmyd0359/: ".charAt(random.nextInt(13)));
        }
        if (random.nextInt(10) == 0) {
            text.setLength(random.nextInt(text.length() + 1));
        }
        int d = random.nextInt(2);
        due("row", x.row(d, 0, text.length()), model.row(d, 0, text.length()));
        for (int i = 0; i < text.length(); i++) {
            due("put", x.put(d, i, text.charAt(i)), model.put(d, i, text.charAt(i)));
        }
        int e = random.nextInt(10) == 0 ? shelf() : d;
        due("country \"" + text + "\"", x.country(e), model.country(e));
    }

    private void lookAtGround() {
        int cell = number(-1, 14);
        int w = one();
        int what = number(0, 8);
        due("height", x.height(cell), model.height(cell));
        due("ground", x.ground(cell), model.ground(cell));
        due("water", x.water(cell), model.water(cell));
        due("rise", x.rise(cell), model.rise(cell));
        due("lakes", x.lakes(), model.lakes());
        due("steepest", x.steepest(what % 5), model.steepest(what % 5));
        due("walker", x.walker(w, what), model.walker(w, what));
        due("count", x.count(what), model.count(what));
    }

    private void lookAhead() {
        int cell = number(-1, 14);
        int w = one();
        int n = random.nextBoolean() ? number(0, 8) : number(0, 60);
        due("behind", x.behind(w, n), model.behind(w, n));
        due("groundThen", x.groundThen(cell, n), model.groundThen(cell, n));
        due("arrives", x.arrives(w, cell), model.arrives(w, cell));
        due("stuck", x.stuck(w), model.stuck(w));
    }

    private void whoGetsWhere() {
        int cell = cell();
        int w = one();
        int what = number(0, 1);
        due("goes", x.goes(w, cell), model.goes(w, cell));
        due("far", x.far(w, what), model.far(w, what));
        switch (random.nextInt(5)) {
            case 0:
                due("company", x.company(w, cell), model.company(w, cell));
                due("hire", x.hire(w, cell, what), model.hire(w, cell, what));
                break;
            case 1:
                due("sit", x.sit(w, what), model.sit(w, what));
                due("apart", x.apart(what), model.apart(what));
                break;
            case 2:
                due("keeps", x.keeps(), model.keeps());
                break;
            case 3:
                due("even", x.even(), model.even());
                break;
            default:
                due("order", x.order(what), model.order(what));
                break;
        }
    }

    private void oddsAndShares() {
        int w = one();
        int b = one();
        int cell = random.nextBoolean() ? cell() : model.behind(w, random.nextInt(7));
        int n = number(0, 7);
        int t = number(2, 20);
        int part = number(0, 1);
        due("fog", x.fog(w, cell, n, t, part), model.fog(w, cell, n, t, part));
        due("mean", x.mean(part), model.mean(part));
        due("two", x.two(w, b), model.two(w, b));
        int families = number(1, 9);
        int days = number(0, 99);
        int i = number(0, 8);
        due("shares", x.shares(families, days, i), model.shares(families, days, i));
    }

    private static final int[] LEASTS = {Byte.MIN_VALUE, Short.MIN_VALUE, Integer.MIN_VALUE};

    /** A ROW of what comes to be by some AGE, or not. */
    private void ages() {
        int w = one();
        int d = random.nextInt(3);
        int sort = random.nextInt(3);
        int size = random.nextInt(40) == 0 ? number(61, 100) : random.nextInt(6);
        due("row", x.row(d, sort, size), model.row(d, sort, size));
        for (int i = 0; i < size && i <= 100; i++) {
            int v = random.nextInt(3) == 0 || i > 60 ? LEASTS[random.nextInt(20) == 0 ? 1 : sort]
                : model.ground(Math.max(0, model.behind(w, i)));
            if (random.nextInt(12) == 0) {
                v += random.nextInt(3) - 1;
            }
            due("put", x.put(d, i, v), model.put(d, i, v));
        }
        int e = random.nextInt(10) == 0 ? shelf() : d;
        int what = number(0, 2);
        due("ages", x.ages(e, w, what), model.ages(e, w, what));
        due("whatIs", x.whatIs(e, w, what), model.whatIs(e, w, what));
    }

    private void toldRows() {
        int d = random.nextInt(3);
        int sort = random.nextInt(3);
        int size = random.nextInt(20);
        boolean ofWater = random.nextBoolean();
        due("row", x.row(d, sort, size), model.row(d, sort, size));
        for (int i = 0; i < size; i++) {
            int v = ofWater ? model.groundThen(-1, i) : model.ground(i);
            if (random.nextInt(25) == 0) {
                v = random.nextBoolean() ? LEASTS[sort] : v + 1;
            }
            due("put", x.put(d, i, v), model.put(d, i, v));
        }
        int e = random.nextInt(10) == 0 ? shelf() : d;
        due("forged", x.forged(e), model.forged(e));
        due("judge", x.judge(e), model.judge(e));
        int n = number(1, 20);
        int z = random.nextInt();
        int what = number(0, 1);
        due("countries", x.countries(n, z, what), model.countries(n, z, what));
    }

    private void shelves() {
        int d = shelf();
        int what = random.nextInt(4) == 0 ? number(0, 1) : 1;
        int k = number(0, 7);
        int figure = number(0, 9);
        due("keep", x.keep(d, what, k, figure), model.keep(d, what, k, figure));
        int e = random.nextBoolean() ? shelf() : d;
        due("cost", x.cost(e), model.cost(e));
        due("toss", x.toss(e), model.toss(e));
    }

    private void rows() {
        int d = shelf();
        int e = random.nextInt(4) == 0 ? d : shelf();
        int sort = number(0, 2);
        int size = random.nextInt(4) == 0 ? number(-3, 103) : number(0, 9);
        if (random.nextInt(3) == 0) {
            due("row", x.row(d, sort, size), model.row(d, sort, size));
        }
        int i = number(0, 6);
        int j = number(0, 6);
        int n = number(-1, 5);
        int v = random.nextBoolean() ? random.nextInt() : random.nextInt(300) - 150;
        due("put", x.put(d, i, v), model.put(d, i, v));
        due("copy", x.copy(d, i, e, j, n), model.copy(d, i, e, j, n));
        due("element", element(e, j), model.element(e, j));
    }

    private long element(int d, int i) {
        try {
            return x.element(d, i);
        } catch (IllegalArgumentException e) {
            return Model.THROWS_ARGUMENT;
        } catch (IllegalStateException e) {
            return Model.THROWS_STATE;
        }
    }
}
