import java.util.Arrays;

/**
 * A road of cells with heights, and walkers under whom the ground gives way. The words in
 * capitals, and the numbers of the promises, are those of ../shared/DOC.md.
 *
 * Three COUNTRIES are made with the object and used again by every call: what there is now, what
 * is only thought of ("mind"), and THE IMAGE. So no call makes anything that stays.
 */
public final class HillsLieDown {

    private static final int CELLS = 15;
    private static final int HIGHEST = 20;
    private static final int FIRST_HEIGHT = 5;
    private static final int MOST_WALKERS = 6;
    private static final int KINDS = 8;
    private static final int FIGURES = 10;
    private static final int OLDEST = 120;
    private static final int LAST_DAY = 999;
    private static final int MOST_DAYS = 60;
    private static final int SHELVES = 8;
    private static final int LONGEST_ROW = 100;
    private static final int DRAWN_DAYS = 10;

    private static final int WALKER = 0;
    private static final int RIDER = 1;
    private static final int HIDER = 2;
    private static final int SLEEPER = 3;
    private static final int DEAD = 4;
    private static final int AUNT = 5;
    private static final int TWIN = 6;
    private static final int YOUNG = 7;

    private static final int BYTES = 0;
    private static final int SHORTS = 1;
    private static final int INTS = 2;

    private static final int NO_SUCH = -1;
    private static final int NO_ROOM = -2;
    private static final int NOT_AS_IT_MUST_BE = -3;
    private static final int NONE = -4;
    private static final int NOTHING_HELD = -11;
    private static final int ANOTHER_KIND = -12;
    private static final int NO_SUCH_PLACE = -13;
    private static final int SIZE_BELOW_0 = -14;
    private static final int NO_FAILURE = -15;
    private static final int FAULT_OF_KIND_1 = -1000;
    private static final int FAULT_OF_KIND_2 = -2000;
    private static final int REFUSALS_LESS_THAN = 1000000000;

    private final Shelf[] shelves = new Shelf[SHELVES];
    private final Country now;
    private final Country mind;
    private final Country pictured;
    private boolean hasPicture;
    private int seed;

    public HillsLieDown() {
        for (int d = 0; d < SHELVES; d++) {
            shelves[d] = new Shelf();
        }
        Walker[] kinds = new Walker[KINDS];
        kinds[WALKER] = new Walker();
        kinds[RIDER] = new Rider();
        kinds[HIDER] = new Hider();
        kinds[SLEEPER] = new Sleeper();
        kinds[DEAD] = new Dead();
        kinds[AUNT] = new Aunt();
        kinds[TWIN] = new Twin();
        kinds[YOUNG] = new Young();
        now = new Country(kinds);
        mind = new Country(kinds);
        pictured = new Country(kinds);
    }

    // ---- the country as told

    public int country(int d) {
        int refusal = rowRefusal(d);
        if (refusal < 0) {
            return refusal;
        }
        Shelf text = shelves[d];
        if (text.sort != BYTES) {
            return ANOTHER_KIND;
        }
        int badPlace = Text.firstBadPlace(text);
        if (badPlace >= 0) {
            return FAULT_OF_KIND_1 - badPlace;
        }
        // Tried in mind first: with a FAULT nothing comes.
        mind.become(now);
        int statements = 0;
        int place = 0;
        while (place < text.size && statements < LONGEST_ROW) {
            if (!Text.carryOut(text, place, mind)) {
                return FAULT_OF_KIND_2 - place;
            }
            place += Text.lengthFrom(text, place);
            statements++;
        }
        now.become(mind);
        return statements;
    }

    public int walker(int w, int what) {
        if (!now.has(w)) {
            return NO_SUCH;
        }
        switch (what) {
            case 0:
                return now.kind[w];
            case 1:
                return now.figure[w];
            case 2:
                return now.age[w];
            case 3:
                return now.at[w];
            case 4:
                return wayAsTold(now.way[w]);
            case 5:
                return now.press[w];
            case 6:
                return now.stride[w];
            case 7:
                return now.shownAge(w);
            case 8:
                return now.spread[w];
            default:
                return NO_SUCH;
        }
    }

    public int height(int cell) {
        return isCell(cell) ? now.heights[cell] : NO_SUCH;
    }

    public int comes(int d, int age, int cell) {
        boolean isInRange = isWithin(age, 0, OLDEST) && isCell(cell);
        int refusal = isInRange ? kindRefusal(d) : NO_SUCH;
        if (refusal < 0) {
            return refusal;
        }
        if (!now.addWalker(shelves[d].kind, shelves[d].figure, age, cell)) {
            return NO_ROOM;
        }
        return now.number - 1;
    }

    public int raises(int cell, int v) {
        if (!isCell(cell)) {
            return NO_SUCH;
        }
        int was = now.heights[cell];
        return now.setHeight(cell, v) ? was : NO_SUCH;
    }

    public int moves(int w, int cell) {
        if (!now.has(w)) {
            return NO_SUCH;
        }
        int was = now.at[w];
        return now.setPlace(w, cell) ? was : NO_SUCH;
    }

    public int turns(int w, int way) {
        if (!now.has(w)) {
            return NO_SUCH;
        }
        int was = wayAsTold(now.way[w]);
        return now.setWay(w, way) ? was : NO_SUCH;
    }

    public int days(int n) {
        if (!isWithin(n, 1, MOST_DAYS)) {
            return NO_SUCH;
        }
        return now.passDaysAsTold(n) ? now.allWater() : NOT_AS_IT_MUST_BE;
    }

    // ---- the ground

    public int ground(int cell) {
        return isCell(cell) ? now.level(cell) : NO_SUCH;
    }

    public int water(int cell) {
        return isCellOrAll(cell) ? now.waterOf(cell) : NO_SUCH;
    }

    public int lakes() {
        int wet = now.wetCells();
        // A LAKE begins where a CELL is wet and the lesser one beside it is not.
        return Integer.bitCount(wet & ~(wet << 1));
    }

    public int rise(int cell) {
        return isWithin(cell, 0, CELLS - 2) ? now.riseFrom(cell) : REFUSALS_LESS_THAN - NO_SUCH;
    }

    public int steepest(int what) {
        switch (what) {
            case 0:
                return now.steepestCell();
            case 1:
                return now.steepness(now.steepestCell());
            case 2:
                return now.flattestCell();
            case 3:
                return now.steepness(now.flattestCell());
            default:
                return NO_SUCH;
        }
    }

    public int behind(int w, int n) {
        if (!now.has(w) || !isWithin(n, 0, MOST_DAYS)) {
            return NO_SUCH;
        }
        thinkDaysOn(n);
        return mind.at[w];
    }

    public int groundThen(int cell, int n) {
        if (!isCellOrAll(cell) || !isWithin(n, 0, MOST_DAYS)) {
            return NO_SUCH;
        }
        thinkDaysOn(n);
        return isCell(cell) ? mind.level(cell) : mind.allWater();
    }

    public int arrives(int w, int cell) {
        if (!now.has(w) || !isCell(cell)) {
            return NO_SUCH;
        }
        mind.become(now);
        for (int n = 0; n <= MOST_DAYS; n++) {
            if (mind.at[w] == cell) {
                return n;
            }
            mind.passDay();
        }
        return NONE;
    }

    public int stuck(int w) {
        if (!now.has(w)) {
            return NO_SUCH;
        }
        mind.become(now);
        for (int n = 0; n <= MOST_DAYS; n++) {
            int was = mind.at[w];
            mind.passDay();
            if (mind.at[w] == was) {
                return n;
            }
        }
        return NONE;
    }

    // ---- who gets where

    public int goes(int w, int cell) {
        if (!now.has(w) || !isCell(cell)) {
            return NO_SUCH;
        }
        return getsThere(w, 0, cell) ? 1 : 0;
    }

    public int far(int w, int what) {
        if (!now.has(w) || !isWithin(what, 0, 1)) {
            return NO_SUCH;
        }
        mind.become(now);
        return mind.walkFar(w, what == 0 ? 1 : -1);
    }

    public int company(int w, int cell) {
        if (!now.has(w) || !isCell(cell)) {
            return NO_SUCH;
        }
        int best = NONE;
        int fewest = MOST_WALKERS + 1;
        for (int along = 0; along < 1 << now.number; along++) {
            int many = Integer.bitCount(along);
            if (many < fewest && !isIn(along, w) && getsThere(w, along, cell)) {
                fewest = many;
                best = along;
            }
        }
        return best;
    }

    public int hire(int w, int cell, int what) {
        if (!now.has(w) || !isCell(cell) || !isWithin(what, 0, 1)) {
            return NO_SUCH;
        }
        int best = NONE;
        int leastPay = NONE;
        for (int along = 0; along < 1 << now.number; along++) {
            int pay = now.payOf(along);
            boolean cheaper = best == NONE || pay < leastPay;
            if (cheaper && !isIn(along, w) && getsThere(w, along, cell)) {
                leastPay = pay;
                best = along;
            }
        }
        return what == 0 ? best : leastPay;
    }

    public int sit(int w, int what) {
        if (!now.has(w) || !isWithin(what, 0, 1)) {
            return NO_SUCH;
        }
        mind.become(now);
        int best = 0;
        int leastWater = 0;
        for (int cell = 0; cell < CELLS; cell++) {
            mind.at[w] = cell;
            int water = mind.allWater();
            if (cell == 0 || water < leastWater) {
                leastWater = water;
                best = cell;
            }
        }
        return what == 0 ? best : leastWater;
    }

    public int apart(int what) {
        if (!isWithin(what, 0, 1)) {
            return NO_SUCH;
        }
        int waterNow = now.allWater();
        int many = 0;
        int first = NONE;
        for (int a = 0; a < now.number; a++) {
            for (int b = a + 1; b < now.number; b++) {
                if (waterOfBothInOneCell(a, b) > waterNow) {
                    first = many == 0 ? 10 * a + b : first;
                    many++;
                }
            }
        }
        return what == 0 ? many : first;
    }

    public int keeps() {
        int best = NONE;
        int most = -1;
        for (int staying = 0; staying < 1 << now.number; staying++) {
            int many = Integer.bitCount(staying);
            if (many > most && waterIfOnly(staying) == 0) {
                most = many;
                best = staying;
            }
        }
        return best;
    }

    public int even() {
        int best = NONE;
        int least = now.steepness(now.steepestCell());
        for (int w = 0; w < now.number; w++) {
            mind.become(now);
            for (int cell = 0; cell < CELLS; cell++) {
                mind.at[w] = cell;
                int greatest = mind.steepness(mind.steepestCell());
                if (greatest < least) {
                    least = greatest;
                    best = 100 * w + cell;
                }
            }
        }
        return best;
    }

    public int order(int what) {
        if (!isWithin(what, 0, 1)) {
            return NO_SUCH;
        }
        int best = NONE;
        int farthest = NONE;
        for (int w = 0; w < now.number; w++) {
            mind.become(now);
            mind.at[w] = 0;
            int reached = mind.walkFar(w, 1);
            if (best == NONE || reached > farthest) {
                farthest = reached;
                best = w;
            }
        }
        return what == 0 ? best : farthest;
    }

    // ---- ages, what he is

    public int ages(int d, int w, int what) {
        boolean isInRange = now.has(w) && isWithin(what, 0, 2);
        int refusal = isInRange ? rowRefusal(d) : NO_SUCH;
        if (refusal < 0) {
            return refusal;
        }
        int many = 0;
        int least = NONE;
        int greatest = NONE;
        for (int age = 0; age <= OLDEST; age++) {
            if (isAsToldBy(d, w, now.kind[w], now.figure[w], age)) {
                many++;
                least = least == NONE ? age : least;
                greatest = age;
            }
        }
        if (what == 0) {
            return many;
        }
        return what == 1 ? least : greatest;
    }

    public int whatIs(int d, int w, int what) {
        boolean isInRange = now.has(w) && isWithin(what, 0, 1);
        int refusal = isInRange ? rowRefusal(d) : NO_SUCH;
        if (refusal < 0) {
            return refusal;
        }
        int bits = 0;
        int choices = what == 0 ? KINDS : FIGURES;
        for (int i = 0; i < choices; i++) {
            int kind = what == 0 ? i : now.kind[w];
            int figure = what == 0 ? now.figure[w] : i;
            if (isAsToldBy(d, w, kind, figure, now.age[w])) {
                bits |= 1 << i;
            }
        }
        return bits;
    }

    public int two(int a, int b) {
        if (!now.has(a) || !now.has(b) || a == b) {
            return NO_SUCH;
        }
        for (int x = 0; x < 2; x++) {
            for (int y = 0; y < 2; y++) {
                boolean contentA = levelUnder(a, b, x, y) <= levelUnder(a, b, 1 - x, y);
                boolean contentB = levelUnder(b, a, y, x) <= levelUnder(b, a, 1 - y, x);
                if (contentA && contentB) {
                    return 10 * x + y;
                }
            }
        }
        return NONE;
    }

    public long fog(int w, int cell, int n, int t, int part) {
        boolean isOneThere = now.has(w) && isCell(cell);
        if (!isOneThere || !isWithin(n, 0, 7) || !isWithin(t, 2, 20) || !isWithin(part, 0, 1)) {
            return REFUSALS_LESS_THAN - NO_SUCH;
        }
        mind.become(now);
        long above = 0;
        long below = 1;
        // Days with fog change nothing: only how many of the n are clear matters.
        long oddsOfClear = 1;
        for (int clear = 0; clear <= n; clear++) {
            if (mind.at[w] == cell) {
                above += oddsOfClear;
            }
            oddsOfClear = oddsOfClear * (n - clear) / (clear + 1) * (t - 1);
            mind.passDay();
        }
        for (int i = 0; i < n; i++) {
            below *= t;
        }
        return inLeastTerms(above, below, part);
    }

    public long mean(int part) {
        if (!isWithin(part, 0, 1)) {
            return REFUSALS_LESS_THAN - NO_SUCH;
        }
        return inLeastTerms(now.allGround(), CELLS, part);
    }

    public int shares(int n, int days, int i) {
        if (!isWithin(n, 1, 9) || !isWithin(days, 0, 99) || !isWithin(i, 0, n - 1)) {
            return NO_SUCH;
        }
        return days / n + (i < days % n ? 1 : 0);
    }

    // ---- told profiles, countries by seeds

    public int forged(int d) {
        int refusal = rowRefusal(d);
        if (refusal < 0) {
            return refusal;
        }
        Shelf told = shelves[d];
        for (int i = 0; i < told.size; i++) {
            if (!isCell(i) || told.values[i] != now.level(i)) {
                return i;
            }
        }
        return NONE;
    }

    public int judge(int d) {
        int refusal = rowRefusal(d);
        if (refusal < 0) {
            return refusal;
        }
        Shelf told = shelves[d];
        mind.become(now);
        for (int i = 0; i < told.size; i++) {
            if (!told.skips(i) && told.values[i] != mind.allWater()) {
                return i;
            }
            mind.passDay();
        }
        return NONE;
    }

    public int countries(int n, int z, int what) {
        if (!isWithin(n, 1, 20) || !isWithin(what, 0, 1)) {
            return NO_SUCH;
        }
        seed = z;
        int together = 0;
        for (int i = 0; i < n; i++) {
            drawCountry();
            mind.passDays(DRAWN_DAYS);
            together += what == 0 ? mind.allWater() : mind.howManyOnEdge();
        }
        return together;
    }

    // ---- the image, what is told

    public int image() {
        pictured.become(now);
        hasPicture = true;
        return now.day;
    }

    public int restore() {
        if (!hasPicture) {
            return NOT_AS_IT_MUST_BE;
        }
        now.become(pictured);
        return now.day;
    }

    public int count(int what) {
        switch (what) {
            case 0:
                return now.number;
            case 1:
                return now.day;
            case 2:
                return now.allHeight();
            case 3:
                return now.allGround();
            case 4:
                return now.whoHasAWay();
            case 5:
                return now.wetCells();
            default:
                return NO_SUCH;
        }
    }

    // ---- shelves

    public int keep(int d, int what, int k, int figure) {
        if (!isShelf(d) || !isWithin(what, 0, 1)) {
            return NO_SUCH;
        }
        if (what == 0) {
            shelves[d].holdNothing();
            return 0;
        }
        if (!isWithin(k, 0, KINDS - 1) || !isWithin(figure, 0, FIGURES - 1)) {
            return NO_SUCH;
        }
        shelves[d].holdKind(k, figure);
        return 0;
    }

    public int row(int d, int sort, int n) {
        if (!isShelf(d) || !isWithin(sort, BYTES, INTS) || n > LONGEST_ROW) {
            return NO_SUCH;
        }
        if (n < 0) {
            return SIZE_BELOW_0;
        }
        shelves[d].holdRow(sort, n);
        return 0;
    }

    public int put(int d, int i, int v) {
        int refusal = rowRefusal(d);
        if (refusal < 0) {
            return refusal;
        }
        if (!shelves[d].hasPlaces(i, 1)) {
            return NO_SUCH_PLACE;
        }
        shelves[d].store(i, v);
        return 0;
    }

    public long element(int d, int i) throws IllegalArgumentException, IllegalStateException {
        if (!isShelf(d)) {
            throw new IllegalArgumentException("no such shelf");
        }
        if (rowRefusal(d) < 0) {
            throw new IllegalStateException("no row");
        }
        if (!shelves[d].hasPlaces(i, 1)) {
            throw new IllegalStateException("no such place");
        }
        return shelves[d].values[i];
    }

    public int copy(int d, int i, int e, int j, int n) {
        if (!isShelf(d) || !isShelf(e)) {
            return NO_SUCH;
        }
        Shelf from = shelves[d];
        Shelf to = shelves[e];
        if (from.holds == Shelf.NOTHING || to.holds == Shelf.NOTHING) {
            return NOTHING_HELD;
        }
        if (from.holds != Shelf.ROW || to.holds != Shelf.ROW || from.sort != to.sort) {
            return ANOTHER_KIND;
        }
        if (!from.hasPlaces(i, n) || !to.hasPlaces(j, n)) {
            return NO_SUCH_PLACE;
        }
        System.arraycopy(from.values, i, to.values, j, n);
        return n;
    }

    public int cost(int d) {
        int refusal = kindRefusal(d);
        if (refusal < 0) {
            return refusal;
        }
        return now.kinds[shelves[d].kind].price(shelves[d].figure);
    }

    public int toss(int d) {
        int refusal = kindRefusal(d);
        if (refusal < 0) {
            return refusal;
        }
        Walker kind = now.kinds[shelves[d].kind];
        try {
            kind.fail(shelves[d].figure);
        } catch (IllegalStateException failure) {
            return kind.failureAsTold(shelves[d].figure);
        }
        return NO_FAILURE;
    }

    // ---- what the calls have in common

    private static boolean isWithin(int v, int least, int greatest) {
        return v >= least && v <= greatest;
    }

    private static boolean isShelf(int d) {
        return isWithin(d, 0, SHELVES - 1);
    }

    private static boolean isCell(int cell) {
        return isWithin(cell, 0, CELLS - 1);
    }

    private static boolean isCellOrAll(int cell) {
        return isWithin(cell, -1, CELLS - 1);
    }

    private static boolean isIn(int bits, int w) {
        return (bits >> w & 1) == 1;
    }

    private static int wayAsTold(int way) {
        if (way == 0) {
            return 0;
        }
        return way < 0 ? 1 : 2;
    }

    /** 0 if there is such a SHELF and a ROW on it. */
    private int rowRefusal(int d) {
        if (!isShelf(d)) {
            return NO_SUCH;
        }
        if (shelves[d].holds == Shelf.NOTHING) {
            return NOTHING_HELD;
        }
        return shelves[d].holds == Shelf.ROW ? 0 : ANOTHER_KIND;
    }

    /** 0 if there is such a SHELF and a KIND on it. */
    private int kindRefusal(int d) {
        if (!isShelf(d)) {
            return NO_SUCH;
        }
        if (shelves[d].holds == Shelf.NOTHING) {
            return NOTHING_HELD;
        }
        return shelves[d].holds == Shelf.KIND ? 0 : ANOTHER_KIND;
    }

    private void thinkDaysOn(int n) {
        mind.become(now);
        mind.passDays(n);
    }

    private boolean getsThere(int w, int along, int cell) {
        mind.become(now);
        return mind.walkTo(w, along, cell);
    }

    private int waterOfBothInOneCell(int a, int b) {
        mind.become(now);
        int cell = Math.min(now.at[a], now.at[b]);
        mind.at[a] = cell;
        mind.at[b] = cell;
        return mind.allWater();
    }

    private int waterIfOnly(int staying) {
        mind.become(now);
        for (int w = 0; w < now.number; w++) {
            if (!isIn(staying, w)) {
                mind.sendAway(w);
            }
        }
        return mind.allWater();
    }

    /** Whether the ROW is so, were one of this KIND, FIGURE and AGE. */
    private boolean isAsToldBy(int d, int w, int kind, int figure, int age) {
        mind.become(now);
        mind.setNature(w, kind, figure, age);
        Shelf told = shelves[d];
        boolean someoneGoes = true;
        for (int i = 0; i < told.size; i++) {
            // Behind a day on which nobody goes nobody will: the rest of the days is spared.
            if (i > 0 && someoneGoes) {
                someoneGoes = mind.passDay();
            }
            if (!told.skips(i) && told.values[i] != mind.level(mind.at[w])) {
                return false;
            }
        }
        return true;
    }

    /** GROUND under one, if he chooses as told and the other as told (0 stay, 1 go over). */
    private int levelUnder(int one, int other, int choice, int otherChoice) {
        mind.become(now);
        mind.at[one] = choice == 0 ? now.at[one] : now.at[other];
        mind.at[other] = otherChoice == 0 ? now.at[other] : now.at[one];
        return mind.level(mind.at[one]);
    }

    private static long inLeastTerms(long above, long below, int part) {
        long common = Math.max(1, commonDivisor(above, below));
        return (part == 0 ? above : below) / common;
    }

    private static long commonDivisor(long a, long b) {
        long greater = a;
        long lesser = b;
        // Each two turns halve the lesser one at least: a hundred are more than a long can need.
        for (int turn = 0; turn < 200 && lesser != 0; turn++) {
            long rest = greater % lesser;
            greater = lesser;
            lesser = rest;
        }
        return greater;
    }

    private void drawCountry() {
        mind.become(now);
        for (int w = 0; w < mind.number; w++) {
            mind.at[w] = drawBelow(CELLS);
            mind.way[w] = drawBelow(3) - 1;
        }
    }

    private int drawBelow(int n) {
        seed = seed * 1103515245 + 12345;
        return n < 1 ? 0 : (seed & 0x7fffffff) / 65536 % n;
    }

    // ---- the kinds: each tells only what is not as it is with the one it is under

    static class Walker {

        int presses(int figure, int age) {
            return age < 60 ? 0 : (age - 60) / 10;
        }

        int spreads() {
            return 0;
        }

        int strides(int figure) {
            return 2;
        }

        int shows(int figure, int age) {
            return age;
        }

        int price(int figure) {
            return 3;
        }

        /** Throws his FAILURE, if he has one. */
        void fail(int figure) {
            if (figure != 0) {
                throw new IllegalStateException("a walker fails");
            }
        }

        int failureAsTold(int figure) {
            return figure;
        }
    }

    static class Rider extends Walker {

        int presses(int figure, int age) {
            int walkers = super.presses(figure, age);
            return walkers < 1 ? 0 : walkers - 1;
        }

        int spreads() {
            return 1;
        }

        int strides(int figure) {
            return 1;
        }

        int price(int figure) {
            return super.price(figure) + figure;
        }

        int failureAsTold(int figure) {
            return super.failureAsTold(figure) + 100;
        }
    }

    static class Hider extends Walker {

        int shows(int figure, int age) {
            int hidden = figure + 10;
            return age < hidden ? 0 : age - hidden;
        }

        int price(int figure) {
            return super.price(figure) - 1;
        }
    }

    static class Sleeper extends Walker {

        int presses(int figure, int age) {
            return super.presses(figure, age) + (age >= 60 ? 2 : 0);
        }

        int strides(int figure) {
            return 0;
        }

        int price(int figure) {
            return 0;
        }

        void fail(int figure) {
            // SLEEPERS, and DEAD ones, have no FAILURE.
        }
    }

    static final class Dead extends Sleeper {

        int presses(int figure, int age) {
            return 2 * super.presses(figure, age);
        }

        int spreads() {
            return 2;
        }

        int price(int figure) {
            return 9;
        }
    }

    static final class Aunt extends Rider {

        int presses(int figure, int age) {
            return super.presses(figure, age) + figure / 3;
        }

        int spreads() {
            return 2;
        }

        int price(int figure) {
            return 2 * super.price(figure);
        }

        int failureAsTold(int figure) {
            return 200 + price(figure);
        }
    }

    static final class Twin extends Hider {

        int presses(int figure, int age) {
            return super.presses(figure, age) + 1;
        }

        int strides(int figure) {
            return 3;
        }

        int shows(int figure, int age) {
            return super.shows(figure, age) / 2;
        }
    }

    static final class Young extends Walker {

        int presses(int figure, int age) {
            return 0;
        }

        int strides(int figure) {
            return 3 + figure / 3;
        }

        int price(int figure) {
            return super.price(figure) + figure;
        }
    }

    /** CELLS, WALKERS, DAY. */
    static final class Country {

        final Walker[] kinds;
        final int[] heights = new int[CELLS];
        int number;
        int day;
        final int[] kind = new int[MOST_WALKERS];
        final int[] figure = new int[MOST_WALKERS];
        final int[] age = new int[MOST_WALKERS];
        final int[] at = new int[MOST_WALKERS];
        final int[] way = new int[MOST_WALKERS];

        // What follows from KIND, FIGURE and AGE is kept, as every look at the ground asks for it.
        final int[] press = new int[MOST_WALKERS];
        final int[] spread = new int[MOST_WALKERS];
        final int[] stride = new int[MOST_WALKERS];

        final int[] waters = new int[CELLS];

        Country(Walker[] kinds) {
            this.kinds = kinds;
            Arrays.fill(heights, FIRST_HEIGHT);
        }

        void become(Country other) {
            number = other.number;
            day = other.day;
            System.arraycopy(other.heights, 0, heights, 0, CELLS);
            System.arraycopy(other.kind, 0, kind, 0, MOST_WALKERS);
            System.arraycopy(other.figure, 0, figure, 0, MOST_WALKERS);
            System.arraycopy(other.age, 0, age, 0, MOST_WALKERS);
            System.arraycopy(other.at, 0, at, 0, MOST_WALKERS);
            System.arraycopy(other.way, 0, way, 0, MOST_WALKERS);
            System.arraycopy(other.press, 0, press, 0, MOST_WALKERS);
            System.arraycopy(other.spread, 0, spread, 0, MOST_WALKERS);
            System.arraycopy(other.stride, 0, stride, 0, MOST_WALKERS);
        }

        boolean has(int w) {
            return isWithin(w, 0, number - 1);
        }

        // The set.. and add.. ones answer whether it could be so; if not, nothing changes.

        boolean setHeight(int cell, int v) {
            if (!isCell(cell) || !isWithin(v, 0, HIGHEST)) {
                return false;
            }
            heights[cell] = v;
            return true;
        }

        boolean addWalker(int ofKind, int ofFigure, int ofAge, int cell) {
            if (number >= MOST_WALKERS || !isCell(cell)) {
                return false;
            }
            if (!setNature(number, ofKind, ofFigure, ofAge)) {
                return false;
            }
            at[number] = cell;
            way[number] = 0;
            number++;
            return true;
        }

        boolean setNature(int w, int ofKind, int ofFigure, int ofAge) {
            if (!isWithin(w, 0, MOST_WALKERS - 1) || !isWithin(ofKind, 0, KINDS - 1)
                    || !isWithin(ofFigure, 0, FIGURES - 1) || !isWithin(ofAge, 0, OLDEST)) {
                return false;
            }
            kind[w] = ofKind;
            figure[w] = ofFigure;
            age[w] = ofAge;
            press[w] = kinds[ofKind].presses(ofFigure, ofAge);
            spread[w] = kinds[ofKind].spreads();
            stride[w] = kinds[ofKind].strides(ofFigure);
            return true;
        }

        boolean setPlace(int w, int cell) {
            if (!has(w) || !isCell(cell)) {
                return false;
            }
            at[w] = cell;
            return true;
        }

        boolean setWay(int w, int told) {
            if (!has(w) || !isWithin(told, 0, 2)) {
                return false;
            }
            way[w] = told == 1 ? -1 : told / 2;
            return true;
        }

        boolean passDaysAsTold(int n) {
            if (!isWithin(n, 1, MOST_DAYS) || day + n > LAST_DAY) {
                return false;
            }
            passDays(n);
            return true;
        }

        void passDays(int n) {
            for (int i = 0; i < n; i++) {
                passDay();
            }
        }

        /** Whether someone goes. */
        boolean passDay() {
            day++;
            boolean someoneGoes = false;
            for (int w = 0; w < number; w++) {
                if (!isCell(at[w] + way[w])) {
                    way[w] = 0;
                }
                if (way[w] != 0 && mayGo(w, way[w])) {
                    at[w] += way[w];
                    someoneGoes = true;
                }
            }
            return someoneGoes;
        }

        boolean mayGo(int w, int by) {
            int next = at[w] + by;
            return isCell(next) && level(next) - level(at[w]) <= stride[w];
        }

        int shownAge(int w) {
            return kinds[kind[w]].shows(figure[w], age[w]);
        }

        int payOf(int bits) {
            int pay = 0;
            for (int w = 0; w < number; w++) {
                if (isIn(bits, w)) {
                    pay += shownAge(w) / 10 + 1;
                }
            }
            return pay;
        }

        /** One presses nothing any more; for thoughts only. */
        void sendAway(int w) {
            press[w] = 0;
        }

        /** GROUND of a CELL. */
        int level(int cell) {
            int level = heights[cell];
            for (int w = 0; w < number; w++) {
                int away = at[w] < cell ? cell - at[w] : at[w] - cell;
                if (away <= spread[w] && away < press[w]) {
                    level -= press[w] - away;
                }
            }
            return level < 0 ? 0 : level;
        }

        int riseFrom(int cell) {
            return level(cell + 1) - level(cell);
        }

        /** RISE either way. */
        int steepness(int cell) {
            return Math.abs(riseFrom(cell));
        }

        int steepestCell() {
            int best = 0;
            int greatest = steepness(0);
            for (int cell = 1; cell < CELLS - 1; cell++) {
                int steep = steepness(cell);
                if (steep > greatest) {
                    greatest = steep;
                    best = cell;
                }
            }
            return best;
        }

        int flattestCell() {
            int best = 0;
            int least = steepness(0);
            for (int cell = 1; cell < CELLS - 1; cell++) {
                int steep = steepness(cell);
                if (steep < least) {
                    least = steep;
                    best = cell;
                }
            }
            return best;
        }

        /** Makes the WATER of each CELL anew. No GROUND is below 0, so 0 serves as none beside. */
        void flood() {
            int highest = 0;
            for (int cell = 0; cell < CELLS; cell++) {
                waters[cell] = highest;
                highest = Math.max(highest, level(cell));
            }
            highest = 0;
            for (int cell = CELLS - 1; cell >= 0; cell--) {
                int level = level(cell);
                waters[cell] = Math.max(0, Math.min(waters[cell], highest) - level);
                highest = Math.max(highest, level);
            }
        }

        /** WATER of a CELL, or of all (-1). */
        int waterOf(int cell) {
            if (!isCell(cell)) {
                return allWater();
            }
            flood();
            return waters[cell];
        }

        int allWater() {
            flood();
            int all = 0;
            for (int cell = 0; cell < CELLS; cell++) {
                all += waters[cell];
            }
            return all;
        }

        /** CELLS with WATER, as bits. */
        int wetCells() {
            flood();
            int bits = 0;
            for (int cell = 0; cell < CELLS; cell++) {
                if (waters[cell] > 0) {
                    bits |= 1 << cell;
                }
            }
            return bits;
        }

        int allHeight() {
            int all = 0;
            for (int cell = 0; cell < CELLS; cell++) {
                all += heights[cell];
            }
            return all;
        }

        int allGround() {
            int all = 0;
            for (int cell = 0; cell < CELLS; cell++) {
                all += level(cell);
            }
            return all;
        }

        int whoHasAWay() {
            int bits = 0;
            for (int w = 0; w < number; w++) {
                if (way[w] != 0) {
                    bits |= 1 << w;
                }
            }
            return bits;
        }

        int howManyOnEdge() {
            int many = 0;
            for (int w = 0; w < number; w++) {
                if (at[w] == 0 || at[w] == CELLS - 1) {
                    many++;
                }
            }
            return many;
        }

        /** He goes as far as he gets: the CELL. */
        int walkFar(int w, int by) {
            for (int step = 0; step < CELLS && mayGo(w, by); step++) {
                at[w] += by;
            }
            return at[w];
        }

        /** He goes straight to a CELL, some along with him in his CELL: whether he gets there. */
        boolean walkTo(int w, int along, int cell) {
            int by = cell < at[w] ? -1 : 1;
            for (int step = 0; step < CELLS && at[w] != cell; step++) {
                gather(w, along);
                if (!mayGo(w, by)) {
                    return false;
                }
                at[w] += by;
            }
            return true;
        }

        void gather(int w, int along) {
            for (int other = 0; other < number; other++) {
                if (isIn(along, other)) {
                    at[other] = at[w];
                }
            }
        }
    }

    /** THE TEXT of a COUNTRY, in a ROW of bytes. */
    static final class Text {

        /** How many digits stand behind a letter; -1 if it is none. */
        static int digitsBehind(int letter) {
            switch (letter) {
                case 'g':
                    return 4;
                case 'w':
                    return 7;
                case 'm':
                    return 3;
                case 'y':
                case 'd':
                    return 2;
                default:
                    return -1;
            }
        }

        /** How long the STATEMENT is whose letter stands there: letter, digits, ";". */
        static int lengthFrom(Shelf text, int place) {
            return digitsBehind(text.valueOrZero(place)) + 2;
        }

        /** The place of a FAULT of kind 1; -1 if there is none. What lacks reads as a 0 there. */
        static int firstBadPlace(Shelf text) {
            int place = 0;
            do {
                int digits = digitsBehind(text.valueOrZero(place));
                if (digits < 0) {
                    return place;
                }
                place++;
                for (int end = place + digits; place < end; place++) {
                    if (!isWithin(text.valueOrZero(place), '0', '9')) {
                        return place;
                    }
                }
                if (text.valueOrZero(place) != ';') {
                    return place;
                }
                place++;
            } while (place < text.size);
            return -1;
        }

        static int number(Shelf text, int from, int digits) {
            int number = 0;
            for (int i = 0; i < digits; i++) {
                number = number * 10 + text.valueOrZero(from + i) - '0';
            }
            return number;
        }

        /** Whether the STATEMENT whose letter stands there could be done. */
        static boolean carryOut(Shelf text, int place, Country country) {
            int first = place + 1;
            switch (text.valueOrZero(place)) {
                case 'g':
                    return country.setHeight(number(text, first, 2), number(text, first + 2, 2));
                case 'w':
                    return country.addWalker(number(text, first, 1), number(text, first + 1, 1),
                            number(text, first + 2, 3), number(text, first + 5, 2));
                case 'm':
                    return country.setPlace(number(text, first, 1), number(text, first + 1, 2));
                case 'y':
                    return country.setWay(number(text, first, 1), number(text, first + 1, 1));
                default:
                    return country.passDaysAsTold(number(text, first, 2));
            }
        }
    }

    /** Holds nothing, a KIND with a FIGURE, or a ROW. */
    static final class Shelf {

        static final int NOTHING = 0;
        static final int KIND = 1;
        static final int ROW = 2;

        int holds = NOTHING;
        int kind;
        int figure;
        int sort;
        int size;
        final int[] values = new int[LONGEST_ROW];

        void holdNothing() {
            holds = NOTHING;
        }

        void holdKind(int ofKind, int ofFigure) {
            holds = KIND;
            kind = ofKind;
            figure = ofFigure;
        }

        void holdRow(int ofSort, int ofSize) {
            holds = ROW;
            sort = ofSort;
            size = ofSize;
            Arrays.fill(values, 0);
        }

        boolean hasPlaces(int from, int many) {
            return many >= 0 && many <= size && isWithin(from, 0, size - many);
        }

        int valueOrZero(int i) {
            return isWithin(i, 0, size - 1) ? values[i] : 0;
        }

        void store(int i, int v) {
            if (sort == BYTES) {
                values[i] = (byte) v;
            } else if (sort == SHORTS) {
                values[i] = (short) v;
            } else {
                values[i] = v;
            }
        }

        /** Whether there stands the least number of the SORT. */
        boolean skips(int i) {
            if (sort == BYTES) {
                return values[i] == -128;
            }
            return values[i] == (sort == SHORTS ? -32768 : -2147483648);
        }
    }
}
