import java.math.BigInteger;
import java.util.ArrayList;
import java.util.List;
import java.util.function.Function;

/**
 * The document once more, written apart from the program and in other ways: a COUNTRY is a list of
 * persons that is copied for each thought, every formula is taken word for word, nothing is kept
 * that follows from something else. Slow and plain; only tests use it.
 */
final class Model {
    /** What a call that throws answers here. */
    static final long THROWS_ARGUMENT = Long.MIN_VALUE + 1;
    static final long THROWS_STATE = Long.MIN_VALUE + 2;

    private static final class Person {
        int kind;
        int figure;
        int age;
        int at;
        int way;
        boolean away;

        Person copied() {
            Person other = new Person();
            other.kind = kind;
            other.figure = figure;
            other.age = age;
            other.at = at;
            other.way = way;
            return other;
        }

        int presses() {
            int walker = Math.max((age - 60) / 10, 0);
            int rider = Math.max(walker - 1, 0);
            int sleeper = age >= 60 ? walker + 2 : walker;
            int[] all = {walker, rider, walker, sleeper, sleeper + sleeper, rider + figure / 3, walker + 1, 0};
            return all[kind];
        }

        int spreads() {
            return new int[] {0, 1, 0, 0, 2, 2, 0, 0}[kind];
        }

        int stride() {
            return new int[] {2, 1, 2, 0, 0, 1, 3, 3 + figure / 3}[kind];
        }

        int shows() {
            int hider = Math.max(age - figure - 10, 0);
            return kind == 2 ? hider : kind == 6 ? hider / 2 : age;
        }

        int pay() {
            return shows() / 10 + 1;
        }
    }

    private static final class Land {
        int[] height = new int[15];
        List<Person> people = new ArrayList<>();
        int day;

        Land copied() {
            Land other = new Land();
            other.height = height.clone();
            for (Person p : people) {
                other.people.add(p.copied());
            }
            other.day = day;
            return other;
        }

        int[] ground() {
            int[] ground = height.clone();
            for (Person p : people) {
                for (int off = -p.spreads(); off <= p.spreads() && !p.away; off++) {
                    int cell = p.at + off;
                    if (cell >= 0 && cell < 15) {
                        ground[cell] -= Math.max(0, p.presses() - Math.abs(off));
                    }
                }
            }
            for (int c = 0; c < 15; c++) {
                ground[c] = Math.max(0, ground[c]);
            }
            return ground;
        }

        int[] waters() {
            int[] ground = ground();
            int[] water = new int[15];
            for (int c = 1; c < 14; c++) {
                int left = 0;
                int right = 0;
                for (int o = 0; o < c; o++) {
                    left = Math.max(left, ground[o]);
                }
                for (int o = c + 1; o < 15; o++) {
                    right = Math.max(right, ground[o]);
                }
                water[c] = Math.max(0, Math.min(left, right) - ground[c]);
            }
            return water;
        }

        int water() {
            return sum(waters());
        }

        int[] steeps() {
            int[] ground = ground();
            int[] steeps = new int[14];
            for (int c = 0; c < 14; c++) {
                steeps[c] = Math.abs(ground[c + 1] - ground[c]);
            }
            return steeps;
        }

        int greatestSteep() {
            int greatest = 0;
            for (int s : steeps()) {
                greatest = Math.max(greatest, s);
            }
            return greatest;
        }

        void passDay() {
            day++;
            for (Person p : people) {
                if (p.way == 0) {
                    continue;
                }
                int next = p.at + p.way;
                if (next < 0 || next > 14) {
                    p.way = 0;
                    continue;
                }
                int[] ground = ground();
                if (ground[next] <= ground[p.at] + p.stride()) {
                    p.at = next;
                }
            }
        }

        Land behind(int n) {
            Land then = copied();
            for (int i = 0; i < n; i++) {
                then.passDay();
            }
            return then;
        }

        boolean gets(int w, int along, int cell) {
            Person he = people.get(w);
            if (he.at == cell) {
                return true;
            }
            Land step = copied();
            for (int o = 0; o < people.size(); o++) {
                if ((along & 1 << o) != 0) {
                    step.people.get(o).at = he.at;
                }
            }
            int next = he.at + (cell > he.at ? 1 : -1);
            int[] ground = step.ground();
            if (ground[next] - ground[he.at] > he.stride()) {
                return false;
            }
            step.people.get(w).at = next;
            return step.gets(w, along, cell);
        }
    }

    private static final class Held {
        boolean isRow;
        int kind;
        int figure;
        int sort;
        long[] row;
    }

    private final Held[] shelves = new Held[8];
    private Land land = new Land();
    private Land picture;

    Model() {
        java.util.Arrays.fill(land.height, 5);
    }

    private static int sum(int[] values) {
        int sum = 0;
        for (int v : values) {
            sum += v;
        }
        return sum;
    }

    private boolean none(int w) {
        return w < 0 || w >= land.people.size();
    }

    private static boolean off(int v, int least, int greatest) {
        return v < least || v > greatest;
    }

    // ---- the country as told

    int country(int d) {
        if (off(d, 0, 7)) {
            return -1;
        }
        if (shelves[d] == null) {
            return -11;
        }
        if (!shelves[d].isRow || shelves[d].sort != 0) {
            return -12;
        }
        StringBuilder text = new StringBuilder();
        for (long b : shelves[d].row) {
            text.append((char) (b & 255));
        }
        int fault = badPlace(text.toString());
        if (fault >= 0) {
            return -1000 - fault;
        }
        Land tried = land.copied();
        int place = 0;
        String[] statements = text.toString().split(";");
        for (String statement : statements) {
            if (!carriedOut(statement, tried)) {
                return -2000 - place;
            }
            place += statement.length() + 1;
        }
        land = tried;
        return statements.length;
    }

    /** By the longest beginning of the text with which a COUNTRY can go on. */
    private static int badPlace(String text) {
        String whole = "((g\\d{4}|w\\d{7}|m\\d{3}|y\\d{2}|d\\d{2});)+";
        if (text.matches(whole)) {
            return -1;
        }
        String part = "((g\\d{4}|w\\d{7}|m\\d{3}|y\\d{2}|d\\d{2});)*"
            + "(g\\d{0,4}|w\\d{0,7}|m\\d{0,3}|y\\d{0,2}|d\\d{0,2})?";
        int place = text.length();
        while (!text.substring(0, place).matches(part)) {
            place--;
        }
        return place;
    }

    private static boolean carriedOut(String statement, Land land) {
        String n = statement.substring(1);
        switch (statement.charAt(0)) {
            case 'g':
                return setHeight(land, num(n, 0, 2), num(n, 2, 4));
            case 'w':
                return add(land, num(n, 0, 1), num(n, 1, 2), num(n, 2, 5), num(n, 5, 7));
            case 'm':
                if (num(n, 0, 1) >= land.people.size() || num(n, 1, 3) > 14) {
                    return false;
                }
                land.people.get(num(n, 0, 1)).at = num(n, 1, 3);
                return true;
            case 'y':
                if (num(n, 0, 1) >= land.people.size() || num(n, 1, 2) > 2) {
                    return false;
                }
                land.people.get(num(n, 0, 1)).way = new int[] {0, -1, 1}[num(n, 1, 2)];
                return true;
            default:
                int days = num(n, 0, 2);
                if (off(days, 1, 60) || land.day + days > 999) {
                    return false;
                }
                for (int i = 0; i < days; i++) {
                    land.passDay();
                }
                return true;
        }
    }

    private static int num(String s, int from, int to) {
        return Integer.parseInt(s.substring(from, to));
    }

    private static boolean setHeight(Land land, int cell, int v) {
        if (off(cell, 0, 14) || off(v, 0, 20)) {
            return false;
        }
        land.height[cell] = v;
        return true;
    }

    private static boolean add(Land land, int kind, int figure, int age, int cell) {
        if (off(kind, 0, 7) || off(figure, 0, 9) || off(age, 0, 120) || off(cell, 0, 14) || land.people.size() == 6) {
            return false;
        }
        Person p = new Person();
        p.kind = kind;
        p.figure = figure;
        p.age = age;
        p.at = cell;
        land.people.add(p);
        return true;
    }

    int walker(int w, int what) {
        if (none(w) || off(what, 0, 8)) {
            return -1;
        }
        Person p = land.people.get(w);
        return new int[] {p.kind, p.figure, p.age, p.at, told(p.way), p.presses(), p.stride(), p.shows(), p.spreads()}[what];
    }

    private static int told(int way) {
        return new int[] {1, 0, 2}[way + 1];
    }

    int height(int cell) {
        return off(cell, 0, 14) ? -1 : land.height[cell];
    }

    int comes(int d, int age, int cell) {
        if (off(d, 0, 7) || off(age, 0, 120) || off(cell, 0, 14)) {
            return -1;
        }
        if (shelves[d] == null || shelves[d].isRow) {
            return shelves[d] == null ? -11 : -12;
        }
        return add(land, shelves[d].kind, shelves[d].figure, age, cell) ? land.people.size() - 1 : -2;
    }

    int raises(int cell, int v) {
        int was = height(cell);
        return setHeight(land, cell, v) ? was : -1;
    }

    int moves(int w, int cell) {
        if (none(w) || off(cell, 0, 14)) {
            return -1;
        }
        int was = land.people.get(w).at;
        land.people.get(w).at = cell;
        return was;
    }

    int turns(int w, int way) {
        if (none(w) || off(way, 0, 2)) {
            return -1;
        }
        int was = told(land.people.get(w).way);
        land.people.get(w).way = new int[] {0, -1, 1}[way];
        return was;
    }

    int days(int n) {
        if (off(n, 1, 60)) {
            return -1;
        }
        if (land.day + n > 999) {
            return -3;
        }
        land = land.behind(n);
        return land.water();
    }

    // ---- the ground

    int ground(int cell) {
        return off(cell, 0, 14) ? -1 : land.ground()[cell];
    }

    int water(int cell) {
        if (cell == -1) {
            return land.water();
        }
        return off(cell, 0, 14) ? -1 : land.waters()[cell];
    }

    int lakes() {
        StringBuilder signs = new StringBuilder();
        for (int water : land.waters()) {
            signs.append(water > 0 ? 'w' : ' ');
        }
        String wet = signs.toString().trim();
        return wet.isEmpty() ? 0 : wet.split(" +").length;
    }

    long rise(int cell) {
        return off(cell, 0, 13) ? 1000000001 : land.ground()[cell + 1] - land.ground()[cell];
    }

    int steepest(int what) {
        if (off(what, 0, 3)) {
            return -1;
        }
        int[] steeps = land.steeps();
        int[] sorted = steeps.clone();
        java.util.Arrays.sort(sorted);
        int wanted = sorted[what < 2 ? 13 : 0];
        int best = 0;
        while (steeps[best] != wanted) {
            best++;
        }
        return what % 2 == 0 ? best : steeps[best];
    }

    int behind(int w, int n) {
        return none(w) || off(n, 0, 60) ? -1 : land.behind(n).people.get(w).at;
    }

    int groundThen(int cell, int n) {
        if (off(cell, -1, 14) || off(n, 0, 60)) {
            return -1;
        }
        return cell == -1 ? land.behind(n).water() : land.behind(n).ground()[cell];
    }

    int arrives(int w, int cell) {
        if (none(w) || off(cell, 0, 14)) {
            return -1;
        }
        for (int n = 0; n <= 60; n++) {
            if (behind(w, n) == cell) {
                return n;
            }
        }
        return -4;
    }

    int stuck(int w) {
        if (none(w)) {
            return -1;
        }
        for (int n = 0; n <= 60; n++) {
            if (land.behind(n).people.get(w).at == land.behind(n + 1).people.get(w).at) {
                return n;
            }
        }
        return -4;
    }

    // ---- who gets where

    int goes(int w, int cell) {
        return none(w) || off(cell, 0, 14) ? -1 : land.gets(w, 0, cell) ? 1 : 0;
    }

    int far(int w, int what) {
        if (none(w) || off(what, 0, 1)) {
            return -1;
        }
        int cell = what == 0 ? 14 : 0;
        while (!land.gets(w, 0, cell)) {
            cell += what == 0 ? -1 : 1;
        }
        return cell;
    }

    /** The sets of others by whom he gets there, by bits. */
    private List<Integer> companies(int w, int cell) {
        List<Integer> all = new ArrayList<>();
        for (int along = 0; along < 1 << land.people.size(); along++) {
            if ((along & 1 << w) == 0 && land.gets(w, along, cell)) {
                all.add(along);
            }
        }
        return all;
    }

    private static int leastBy(List<Integer> sets, Function<Integer, Integer> measure) {
        int best = -4;
        for (int set : sets) {
            if (best == -4 || measure.apply(set) < measure.apply(best)) {
                best = set;
            }
        }
        return best;
    }

    private int pay(int along) {
        int pay = 0;
        for (int o = 0; o < land.people.size(); o++) {
            pay += (along & 1 << o) == 0 ? 0 : land.people.get(o).pay();
        }
        return pay;
    }

    int company(int w, int cell) {
        if (none(w) || off(cell, 0, 14)) {
            return -1;
        }
        return leastBy(companies(w, cell), Integer::bitCount);
    }

    int hire(int w, int cell, int what) {
        if (none(w) || off(cell, 0, 14) || off(what, 0, 1)) {
            return -1;
        }
        int best = leastBy(companies(w, cell), this::pay);
        return best == -4 || what == 0 ? best : pay(best);
    }

    private Land with(int w, int cell) {
        Land other = land.copied();
        other.people.get(w).at = cell;
        return other;
    }

    int sit(int w, int what) {
        if (none(w) || off(what, 0, 1)) {
            return -1;
        }
        int best = 14;
        for (int cell = 14; cell >= 0; cell--) {
            best = with(w, cell).water() <= with(w, best).water() ? cell : best;
        }
        return what == 0 ? best : with(w, best).water();
    }

    int apart(int what) {
        if (off(what, 0, 1)) {
            return -1;
        }
        List<Integer> all = new ArrayList<>();
        for (int both = 1; both < 60; both++) {
            int a = both / 10;
            int b = both % 10;
            if (a >= b || b >= land.people.size()) {
                continue;
            }
            Land other = land.copied();
            int cell = Math.min(other.people.get(a).at, other.people.get(b).at);
            other.people.get(a).at = cell;
            other.people.get(b).at = cell;
            if (other.water() > land.water()) {
                all.add(both);
            }
        }
        if (what == 0) {
            return all.size();
        }
        return all.isEmpty() ? -4 : all.get(0);
    }

    int keeps() {
        for (int many = land.people.size(); many >= 0; many--) {
            for (int stay = 0; stay < 1 << land.people.size(); stay++) {
                Land other = land.copied();
                for (int w = 0; w < other.people.size(); w++) {
                    other.people.get(w).away = (stay & 1 << w) == 0;
                }
                if (Integer.bitCount(stay) == many && other.water() == 0) {
                    return stay;
                }
            }
        }
        return -4;
    }

    int even() {
        for (int least = 0; least < land.greatestSteep(); least++) {
            for (int w = 0; w < land.people.size(); w++) {
                for (int cell = 0; cell < 15; cell++) {
                    if (with(w, cell).greatestSteep() == least) {
                        return 100 * w + cell;
                    }
                }
            }
        }
        return -4;
    }

    int order(int what) {
        if (off(what, 0, 1)) {
            return -1;
        }
        for (int cell = 14; cell >= 0; cell--) {
            for (int w = 0; w < land.people.size(); w++) {
                if (with(w, 0).gets(w, 0, cell)) {
                    return what == 0 ? w : cell;
                }
            }
        }
        return -4;
    }

    // ---- ages, what he is

    private int refusedRow(int d) {
        return shelves[d] == null ? -11 : shelves[d].isRow ? 0 : -12;
    }

    private static boolean skipped(Held held, int i) {
        return held.row[i] == new long[] {Byte.MIN_VALUE, Short.MIN_VALUE, Integer.MIN_VALUE}[held.sort];
    }

    private boolean isSo(Held held, int w, Land from) {
        Land then = from.copied();
        for (int i = 0; i < held.row.length; i++) {
            if (!skipped(held, i) && held.row[i] != then.ground()[then.people.get(w).at]) {
                return false;
            }
            then.passDay();
        }
        return true;
    }

    int ages(int d, int w, int what) {
        if (off(d, 0, 7) || none(w) || off(what, 0, 2)) {
            return -1;
        }
        if (refusedRow(d) != 0) {
            return refusedRow(d);
        }
        List<Integer> so = new ArrayList<>();
        for (int age = 0; age <= 120; age++) {
            Land other = land.copied();
            other.people.get(w).age = age;
            if (isSo(shelves[d], w, other)) {
                so.add(age);
            }
        }
        if (what == 0) {
            return so.size();
        }
        return so.isEmpty() ? -4 : so.get(what == 1 ? 0 : so.size() - 1);
    }

    int whatIs(int d, int w, int what) {
        if (off(d, 0, 7) || none(w) || off(what, 0, 1)) {
            return -1;
        }
        if (refusedRow(d) != 0) {
            return refusedRow(d);
        }
        int bits = 0;
        for (int i = 0; i < (what == 0 ? 8 : 10); i++) {
            Land other = land.copied();
            if (what == 0) {
                other.people.get(w).kind = i;
            } else {
                other.people.get(w).figure = i;
            }
            bits += isSo(shelves[d], w, other) ? 1 << i : 0;
        }
        return bits;
    }

    int two(int a, int b) {
        if (none(a) || none(b) || a == b) {
            return -1;
        }
        int atA = land.people.get(a).at;
        int atB = land.people.get(b).at;
        int[][] under = new int[4][];
        for (int pair = 0; pair < 4; pair++) {
            Land other = land.copied();
            other.people.get(a).at = pair < 2 ? atA : atB;
            other.people.get(b).at = pair % 2 == 0 ? atB : atA;
            int[] ground = other.ground();
            under[pair] = new int[] {ground[other.people.get(a).at], ground[other.people.get(b).at]};
        }
        for (int pair = 0; pair < 4; pair++) {
            if (under[pair ^ 2][0] >= under[pair][0] && under[pair ^ 1][1] >= under[pair][1]) {
                return pair / 2 * 10 + pair % 2;
            }
        }
        return -4;
    }

    /** How many of all t by t by .. ways to draw the DAYS end there: 1 of t with fog. */
    private static long waysThere(Land land, int w, int cell, int n, int t) {
        if (n == 0) {
            return land.people.get(w).at == cell ? 1 : 0;
        }
        return waysThere(land, w, cell, n - 1, t) + (t - 1) * waysThere(land.behind(1), w, cell, n - 1, t);
    }

    private static long fraction(long above, long below, int part) {
        BigInteger common = BigInteger.valueOf(above).gcd(BigInteger.valueOf(below));
        return (part == 0 ? above : below) / common.longValue();
    }

    long fog(int w, int cell, int n, int t, int part) {
        if (none(w) || off(cell, 0, 14) || off(n, 0, 7) || off(t, 2, 20) || off(part, 0, 1)) {
            return 1000000001;
        }
        return fraction(waysThere(land, w, cell, n, t), BigInteger.valueOf(t).pow(n).longValue(), part);
    }

    long mean(int part) {
        return off(part, 0, 1) ? 1000000001 : fraction(sum(land.ground()), 15, part);
    }

    int shares(int n, int days, int i) {
        if (off(n, 1, 9) || off(days, 0, 99) || off(i, 0, n - 1)) {
            return -1;
        }
        int has = 0;
        for (int day = 0; day < days; day++) {
            has += day % n == i ? 1 : 0;
        }
        return has;
    }

    // ---- told profiles, countries by seeds

    int forged(int d) {
        if (off(d, 0, 7) || refusedRow(d) != 0) {
            return off(d, 0, 7) ? -1 : refusedRow(d);
        }
        for (int i = 0; i < shelves[d].row.length; i++) {
            if (i > 14 || shelves[d].row[i] != land.ground()[i]) {
                return i;
            }
        }
        return -4;
    }

    int judge(int d) {
        if (off(d, 0, 7) || refusedRow(d) != 0) {
            return off(d, 0, 7) ? -1 : refusedRow(d);
        }
        Land then = land.copied();
        for (int i = 0; i < shelves[d].row.length; i++) {
            if (!skipped(shelves[d], i) && shelves[d].row[i] != then.water()) {
                return i;
            }
            then.passDay();
        }
        return -4;
    }

    int countries(int n, int z, int what) {
        if (off(n, 1, 20) || off(what, 0, 1)) {
            return -1;
        }
        int drawn = z;
        int together = 0;
        for (int i = 0; i < n; i++) {
            Land other = land.copied();
            for (Person p : other.people) {
                drawn = drawn * 1103515245 + 12345;
                p.at = (drawn & 0x7fffffff) / 65536 % 15;
                drawn = drawn * 1103515245 + 12345;
                p.way = (drawn & 0x7fffffff) / 65536 % 3 - 1;
            }
            other = other.behind(10);
            if (what == 0) {
                together += other.water();
            } else {
                for (Person p : other.people) {
                    together += p.at % 14 == 0 ? 1 : 0;
                }
            }
        }
        return together;
    }

    // ---- the image, what is told

    int image() {
        picture = land.copied();
        return land.day;
    }

    int restore() {
        if (picture == null) {
            return -3;
        }
        land = picture.copied();
        return land.day;
    }

    int count(int what) {
        int bits = 0;
        switch (what) {
            case 0:
                return land.people.size();
            case 1:
                return land.day;
            case 2:
                return sum(land.height);
            case 3:
                return sum(land.ground());
            case 4:
                for (int w = 0; w < land.people.size(); w++) {
                    bits += land.people.get(w).way != 0 ? 1 << w : 0;
                }
                return bits;
            case 5:
                for (int c = 0; c < 15; c++) {
                    bits += land.waters()[c] > 0 ? 1 << c : 0;
                }
                return bits;
            default:
                return -1;
        }
    }

    // ---- shelves

    int keep(int d, int what, int k, int figure) {
        if (off(d, 0, 7) || off(what, 0, 1) || what == 1 && (off(k, 0, 7) || off(figure, 0, 9))) {
            return -1;
        }
        shelves[d] = what == 0 ? null : new Held();
        if (what == 1) {
            shelves[d].kind = k;
            shelves[d].figure = figure;
        }
        return 0;
    }

    int row(int d, int sort, int n) {
        if (off(d, 0, 7) || off(sort, 0, 2) || n > 100) {
            return -1;
        }
        if (n < 0) {
            return -14;
        }
        shelves[d] = new Held();
        shelves[d].isRow = true;
        shelves[d].sort = sort;
        shelves[d].row = new long[n];
        return 0;
    }

    int put(int d, int i, int v) {
        if (off(d, 0, 7) || refusedRow(d) != 0) {
            return off(d, 0, 7) ? -1 : refusedRow(d);
        }
        if (off(i, 0, shelves[d].row.length - 1)) {
            return -13;
        }
        int bits = new int[] {56, 48, 32}[shelves[d].sort];
        shelves[d].row[i] = (long) v << bits >> bits;
        return 0;
    }

    long element(int d, int i) {
        if (off(d, 0, 7)) {
            return THROWS_ARGUMENT;
        }
        if (refusedRow(d) != 0 || off(i, 0, shelves[d].row.length - 1)) {
            return THROWS_STATE;
        }
        return shelves[d].row[i];
    }

    int copy(int d, int i, int e, int j, int n) {
        if (off(d, 0, 7) || off(e, 0, 7)) {
            return -1;
        }
        if (shelves[d] == null || shelves[e] == null) {
            return -11;
        }
        if (!shelves[d].isRow || !shelves[e].isRow || shelves[d].sort != shelves[e].sort) {
            return -12;
        }
        long endFrom = (long) i + n;
        long endTo = (long) j + n;
        if (n < 0 || i < 0 || j < 0 || endFrom > shelves[d].row.length || endTo > shelves[e].row.length) {
            return -13;
        }
        long[] taken = shelves[d].row.clone();
        for (int k = 0; k < n; k++) {
            shelves[e].row[j + k] = taken[i + k];
        }
        return n;
    }

    private int refusedKind(int d) {
        return shelves[d] == null ? -11 : shelves[d].isRow ? -12 : 0;
    }

    int cost(int d) {
        if (off(d, 0, 7) || refusedKind(d) != 0) {
            return off(d, 0, 7) ? -1 : refusedKind(d);
        }
        int f = shelves[d].figure;
        return new int[] {3, 3 + f, 2, 0, 9, 2 * (3 + f), 2, 3 + f}[shelves[d].kind];
    }

    int toss(int d) {
        int cost = cost(d);
        if (cost < 0) {
            return cost;
        }
        int f = shelves[d].figure;
        if (f == 0) {
            return -15;
        }
        return new int[] {f, f + 100, f, -15, -15, 200 + cost, f, f}[shelves[d].kind];
    }
}
