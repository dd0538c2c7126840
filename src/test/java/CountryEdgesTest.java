/**
 * Promises 1 and 2, edge by edge: each method stands for a sentence of the document that names a
 * boundary, which is told above it.
 */
public final class CountryEdgesTest {
    private static final int MIN = Integer.MIN_VALUE;
    private static final int MAX = Integer.MAX_VALUE;

    public static void main(String[] args) {
        newObject();
        objectsAreApart();
        textOneStatementAtLeast();
        textThatLacksItsEnd();
        textDigitsJustAsTold();
        textOtherSigns();
        textOtherLetters();
        textBytesKeepTheirLowestBits();
        textKind1AheadOfKind2();
        textCellsAndHeights();
        textKindsFiguresAges();
        textNoRoom();
        textPlaces();
        textWays();
        textDays();
        textDayAbove999();
        textFirstOneIsTold();
        textOnWhatThoseAheadMade();
        textWithAFaultNothing();
        textWithoutFaultAll();
        textRowStays();
        textOfFullRow();
        countryRefusals();
        Check.end("CountryEdgesTest");
    }

    /** "All CELLS 5 high, no WALKERS"; DAY "0 at first"; SHELVES "nothing (at first)". */
    private static void newObject() {
        HillsLieDown x = new HillsLieDown();
        for (int cell = 0; cell < 15; cell++) {
            Check.due("height", x.height(cell), 5);
            Check.due("ground", x.ground(cell), 5);
            Check.due("water", x.water(cell), 0);
        }
        Check.due("WALKERS", x.count(0), 0);
        Check.due("DAY", x.count(1), 0);
        Check.due("who has a WAY", x.count(4), 0);
        for (int w = 0; w < 6; w++) {
            for (int what = 0; what < 9; what++) {
                Check.due("nobody", x.walker(w, what), -1);
            }
        }
        for (int d = 0; d < 8; d++) {
            Check.due("nothing for a KIND", x.cost(d), -11);
            Check.due("nothing for a ROW", x.put(d, 0, 0), -11);
        }
        Check.due("no IMAGE", x.restore(), -3);
    }

    private static void objectsAreApart() {
        HillsLieDown x = new HillsLieDown();
        HillsLieDown y = new HillsLieDown();
        String first = Check.seen(y);
        Check.bring(x, Check.AUNT, 9, 120, 7);
        x.raises(3, 20);
        x.turns(0, 1);
        x.days(60);
        x.image();
        Check.same("another object", Check.seen(y), first);
        Check.due("its SHELVES", y.cost(7), -11);
        Check.due("its IMAGE", y.restore(), -3);
        Check.same("one made later", Check.seen(new HillsLieDown()), first);
    }

    /** "STATEMENTS, each with ";" behind, one at least". */
    private static void textOneStatementAtLeast() {
        HillsLieDown x = new HillsLieDown();
        Check.due("no byte at all", Check.tell(x, ""), -1000);
        Check.due("; alone", Check.tell(x, ";"), -1000);
        Check.due("a second ;", Check.tell(x, "g0005;;"), -1006);
        Check.due("one", Check.tell(x, "g0005;"), 1);
        Check.due("two", Check.tell(x, "g0005;g0005;"), 2);
    }

    /** "the place of the first byte with which no COUNTRY can go on (the end, if something lacks)". */
    private static void textThatLacksItsEnd() {
        String[] statements = {"g0005;", "w0006000;", "m000;", "y00;", "d01;"};
        for (String s : statements) {
            for (int length = 0; length <= s.length(); length++) {
                HillsLieDown x = new HillsLieDown();
                Check.bring(x, Check.WALKER, 0, 60, 4);
                String before = Check.seen(x);
                String text = s.substring(0, length);
                boolean isWhole = length == s.length();
                Check.due("\"" + text + "\"", Check.tell(x, text), isWhole ? 1 : -1000 - length);
                if (!isWhole) {
                    Check.same("nothing came", Check.seen(x), before);
                }
                int due = length == 0 ? 1 : -1004 - length;
                Check.due("\"d01;" + text + "\"", Check.tell(x, "d01;" + text), isWhole ? 2 : due);
            }
        }
    }

    /** "Numbers in THE TEXT have just as many digits as told". */
    private static void textDigitsJustAsTold() {
        String[] statements = {"g0005;", "w0006000;", "m000;", "y00;", "d01;"};
        for (String s : statements) {
            HillsLieDown x = new HillsLieDown();
            Check.bring(x, Check.WALKER, 0, 60, 4);
            int last = s.length() - 1;
            String fewer = s.substring(0, 1) + s.substring(2);
            String more = s.substring(0, 1) + "0" + s.substring(1);
            Check.due("a digit less: " + fewer, Check.tell(x, fewer), -1000 - (last - 1));
            Check.due("a digit more: " + more, Check.tell(x, more), -1000 - last);
            Check.due("as told: " + s, Check.tell(x, s), 1);
        }
    }

    /** Kind 1: a sign that is no digit where one must be, and one that is no ";" behind them. */
    private static void textOtherSigns() {
        String[] statements = {"g0005;", "w0006000;", "m000;", "y00;", "d01;"};
        char[] others = {'/', ':', ';', ' ', '-', '+', 'g', 'd', (char) 0, (char) 127, (char) 176, (char) 255};
        for (String s : statements) {
            HillsLieDown x = new HillsLieDown();
            for (int place = 1; place < s.length() - 1; place++) {
                char other = others[(place + s.charAt(0)) % others.length];
                Check.due("another sign at " + place, Check.tell(x, with(s, place, other)), -1000 - place);
                Check.due("just below 0", Check.tell(x, with(s, place, '/')), -1000 - place);
                Check.due("just above 9", Check.tell(x, with(s, place, ':')), -1000 - place);
            }
        }
        for (String s : statements) {
            HillsLieDown x = new HillsLieDown();
            for (char c : new char[] {'0', '9', ':', '<', 'g', ' ', (char) 0, (char) (128 + ';')}) {
                int last = s.length() - 1;
                Check.due("no ; behind", Check.tell(x, with(s, last, c)), -1000 - last);
            }
        }
    }

    private static String with(String s, int place, char c) {
        return s.substring(0, place) + c + s.substring(place + 1);
    }

    /** A STATEMENT begins with "g", "w", "m", "y" or "d", and with no other byte. */
    private static void textOtherLetters() {
        for (int b = 0; b < 256; b++) {
            HillsLieDown x = new HillsLieDown();
            Check.bring(x, Check.WALKER, 0, 60, 4);
            int digits = "gwmyd".indexOf(b) < 0 ? 4 : new int[] {4, 7, 3, 2, 2}["gwmyd".indexOf(b)];
            StringBuilder text = new StringBuilder().append((char) b);
            for (int i = 0; i < digits; i++) {
                text.append(b == 'd' && i == 1 ? '1' : '0');
            }
            boolean isLetter = "gwmyd".indexOf(b) >= 0;
            Check.due("byte " + b, Check.tell(x, text + ";"), isLetter ? 1 : -1000);
            Check.due("byte " + b + " behind", Check.tell(x, "y00;" + text + ";"), isLetter ? 2 : -1004);
        }
    }

    /** "what is put in keeps its lowest bits": 256 more is the same sign, 128 more is none. */
    private static void textBytesKeepTheirLowestBits() {
        HillsLieDown x = new HillsLieDown();
        Check.rowOf(x, 0, Check.BYTES, 'd' + 256, '0' - 256, '1' + 65536, ';' + 512);
        Check.due("the same signs", x.country(0), 1);
        Check.due("DAY", x.count(1), 1);
        Check.rowOf(x, 0, Check.BYTES, 'd' + 128, '0', '1', ';');
        Check.due("no letter", x.country(0), -1000);
        Check.rowOf(x, 0, Check.BYTES, 'd', '0', '1' + 128, ';');
        Check.due("no digit", x.country(0), -1002);
    }

    /** Kind 1, "else kind 2": what cannot go on is told, be it behind one that is not as it must be. */
    private static void textKind1AheadOfKind2() {
        HillsLieDown x = new HillsLieDown();
        String[] faults = {"g1500;", "g0021;", "w8006000;", "w0012100;", "w0006015;", "m000;", "y00;", "d00;", "d61;"};
        for (String fault : faults) {
            Check.due(fault, Check.tell(x, fault), -2000);
            Check.due(fault + "d01;", Check.tell(x, fault + "d01;"), -2000);
            Check.due(fault + "x", Check.tell(x, fault + "x"), -1000 - fault.length());
            Check.due(fault + "d01", Check.tell(x, fault + "d01"), -1003 - fault.length());
        }
    }

    /** A text behind "w0006000;", where kind 2 is told as -2009 and 2 STATEMENTS come without. */
    private static void second(String statement, boolean isAsItMustBe) {
        HillsLieDown x = new HillsLieDown();
        int due = isAsItMustBe ? 2 : -2009;
        Check.due("\"w0006000;" + statement + "\"", Check.tell(x, "w0006000;" + statement), due);
        Check.due("how many came", x.count(0), isAsItMustBe ? statement.charAt(0) == 'w' ? 2 : 1 : 0);
    }

    /** "g" a CELL (0 .. 14), HEIGHT (0 .. 20): else "a number out of range". */
    private static void textCellsAndHeights() {
        for (int cell = 0; cell < 100; cell++) {
            second("g" + cell / 10 + cell % 10 + "07;", cell <= 14);
        }
        for (int v = 0; v < 100; v++) {
            second("g07" + v / 10 + v % 10 + ";", v <= 20);
        }
        HillsLieDown x = new HillsLieDown();
        Check.due("the edges", Check.tell(x, "g0020;g1400;g0100;g1320;"), 4);
        Check.due("CELL 0", x.height(0), 20);
        Check.due("CELL 14", x.height(14), 0);
        Check.due("CELL 1", x.height(1), 0);
        Check.due("CELL 13", x.height(13), 20);
    }

    /** "w" KIND (0 .. 7), FIGURE (0 .. 9), AGE (0 .. 120), AT (0 .. 14). */
    private static void textKindsFiguresAges() {
        for (int i = 0; i < 10; i++) {
            second("w" + i + "006000;", i <= 7);
            second("w0" + i + "06000;", true);
        }
        for (int age = 0; age < 1000; age = age == 125 ? 900 : age + 1) {
            second("w00" + age / 100 + age / 10 % 10 + age % 10 + "00;", age <= 120);
        }
        for (int at = 0; at < 100; at++) {
            second("w00060" + at / 10 + at % 10 + ";", at <= 14);
        }
        HillsLieDown x = new HillsLieDown();
        Check.due("the edges", Check.tell(x, "w0000000;w7912014;"), 2);
        int[] least = {0, 0, 0, 0, 0};
        int[] greatest = {7, 9, 120, 14, 0};
        for (int what = 0; what < 5; what++) {
            Check.due("least", x.walker(0, what), least[what]);
            Check.due("greatest", x.walker(1, what), greatest[what]);
        }
    }

    /** "6 at most"; "no room". */
    private static void textNoRoom() {
        String one = "w0006003;";
        HillsLieDown x = new HillsLieDown();
        Check.due("six at once", Check.tell(x, one + one + one + one + one + one), 6);
        Check.due("six", x.count(0), 6);
        String before = Check.seen(x);
        Check.due("a seventh", Check.tell(x, one), -2000);
        Check.due("a seventh", Check.tell(x, "g0009;" + one), -2006);
        Check.same("nothing came", Check.seen(x), before);
        HillsLieDown y = new HillsLieDown();
        Check.due("seven at once", Check.tell(y, one + one + one + one + one + one + one), -2054);
        Check.due("nobody came", y.count(0), 0);
        Check.due("five", Check.tell(y, one + one + one + one + one), 5);
        Check.due("two more", Check.tell(y, one + one), -2009);
        Check.due("nobody more", y.count(0), 5);
        Check.due("the sixth", Check.tell(y, one), 1);
        Check.due("six", y.count(0), 6);
    }

    /** "m" one (a digit), a CELL (2 digits): he is there; "no such one". */
    private static void textPlaces() {
        for (int cell = 0; cell < 100; cell++) {
            second("m0" + cell / 10 + cell % 10 + ";", cell <= 14);
        }
        for (int w = 1; w < 10; w++) {
            second("m" + w + "00;", false);
        }
        HillsLieDown x = new HillsLieDown();
        Check.due("nobody is there", Check.tell(x, "m000;"), -2000);
        for (int w = 0; w < 6; w++) {
            Check.bring(x, Check.WALKER, 0, 60, 7);
        }
        Check.due("the first and the last", Check.tell(x, "m000;m514;"), 2);
        Check.due("the first", x.walker(0, 3), 0);
        Check.due("the last", x.walker(5, 3), 14);
        Check.due("there is no 6", Check.tell(x, "m600;"), -2000);
        Check.due("the others stay", x.walker(1, 3), 7);
    }

    /** "y" one (a digit), WAY (a digit: 0 none, 1 to lesser, 2 to greater CELLS). */
    private static void textWays() {
        for (int way = 0; way < 10; way++) {
            second("y0" + way + ";", way <= 2);
        }
        for (int w = 1; w < 10; w++) {
            second("y" + w + "0;", false);
        }
        HillsLieDown x = new HillsLieDown();
        Check.due("nobody is there", Check.tell(x, "y00;"), -2000);
        for (int w = 0; w < 6; w++) {
            Check.bring(x, Check.WALKER, 0, 60, 7);
        }
        Check.due("there is no 6", Check.tell(x, "y60;"), -2000);
        Check.due("ways", Check.tell(x, "y01;y12;y51;"), 3);
        Check.due("to lesser CELLS", x.walker(0, 4), 1);
        Check.due("to greater CELLS", x.walker(1, 4), 2);
        Check.due("the last one", x.walker(5, 4), 1);
        x.days(1);
        Check.due("he goes", x.walker(0, 3), 6);
        Check.due("he goes", x.walker(1, 3), 8);
        Check.due("he goes", x.walker(5, 3), 6);
        Check.due("none again", Check.tell(x, "y00;"), 1);
        Check.due("none", x.walker(0, 4), 0);
    }

    /** "d" DAYS (2 digits, 1 .. 60). */
    private static void textDays() {
        for (int n = 0; n < 100; n++) {
            second("d" + n / 10 + n % 10 + ";", n >= 1 && n <= 60);
        }
        HillsLieDown x = new HillsLieDown();
        Check.due("the least and the greatest", Check.tell(x, "w0006000;y02;d01;d60;"), 4);
        Check.due("DAY", x.count(1), 61);
        Check.due("he went", x.walker(0, 3), 14);
    }

    /** "days() is refused (-3; in THE TEXT kind 2), if DAY and n together are above 999". */
    private static void textDayAbove999() {
        HillsLieDown x = new HillsLieDown();
        Check.passDays(x, 940);
        Check.due("1000", Check.tell(x, "d60;"), -2000);
        Check.due("999 and 1", Check.tell(x, "d59;d01;"), -2004);
        Check.due("DAY", x.count(1), 940);
        Check.due("999", Check.tell(x, "d59;"), 1);
        Check.due("DAY", x.count(1), 999);
        Check.due("1000", Check.tell(x, "d01;"), -2000);
        Check.due("DAY", x.count(1), 999);
        HillsLieDown y = new HillsLieDown();
        StringBuilder all = new StringBuilder();
        for (int i = 0; i < 16; i++) {
            all.append("d60;");
        }
        Check.due("1000 at once", Check.tell(y, all + "d40;"), -2064);
        Check.due("DAY", y.count(1), 0);
        Check.due("999 at once", Check.tell(y, all + "d39;"), 17);
        Check.due("DAY", y.count(1), 999);
        HillsLieDown z = new HillsLieDown();
        Check.passDays(z, 998);
        Check.bring(z, Check.WALKER, 0, 60, 4);
        z.turns(0, 2);
        Check.due("none of them goes", Check.tell(z, "d02;"), -2000);
        Check.due("he stays", z.walker(0, 3), 4);
        Check.due("one goes", Check.tell(z, "d01;"), 1);
        Check.due("he goes", z.walker(0, 3), 5);
    }

    /** "the first that can't be done so is told (kind 2)"; "the place of the letter". */
    private static void textFirstOneIsTold() {
        HillsLieDown x = new HillsLieDown();
        Check.due("the first of two", Check.tell(x, "g1500;g0021;"), -2000);
        Check.due("the second", Check.tell(x, "g0005;g0021;d00;"), -2006);
        Check.due("the third", Check.tell(x, "g0005;d01;m000;y00;"), -2010);
        Check.due("the last", Check.tell(x, "w0006000;w0006000;y00;y10;y20;"), -2026);
        StringBuilder long96 = new StringBuilder();
        for (int i = 0; i < 24; i++) {
            long96.append("d01;");
        }
        Check.due("at the greatest place", Check.tell(x, long96 + "d00;"), -2096);
    }

    /** "STATEMENTS are tried one behind the other, each on what those ahead of it made". */
    private static void textOnWhatThoseAheadMade() {
        HillsLieDown x = new HillsLieDown();
        Check.due("he has come", Check.tell(x, "w0006003;m009;y02;d02;"), 4);
        Check.due("he is there", x.walker(0, 3), 11);
        Check.due("he comes later", Check.tell(x, "m109;w0006003;"), -2000);
        Check.due("he comes later", Check.tell(x, "y11;w0006003;"), -2000);
        Check.due("he has come", Check.tell(x, "w0006003;y11;"), 2);
        // The hill is raised between two DAYS, ahead of the third he is taken over it.
        HillsLieDown y = new HillsLieDown();
        Check.due("all", Check.tell(y, "w0006003;y02;d01;g0508;d01;m006;d01;"), 7);
        Check.due("he is there", y.walker(0, 3), 7);
        Check.due("DAY", y.count(1), 3);
    }

    /** "Without FAULT all of it comes, with one nothing". */
    private static void textWithAFaultNothing() {
        String ahead = "g0009;w1306000;m007;y01;d05;";
        String[] faults = {"g1500;", "w8000000;", "m900;", "y90;", "d00;", "x", "d0"};
        for (String fault : faults) {
            HillsLieDown x = new HillsLieDown();
            Check.bring(x, Check.DEAD, 3, 99, 2);
            x.turns(0, 2);
            x.days(3);
            x.image();
            String before = Check.seen(x);
            int kind = fault.length() < 4 ? -1000 : -2000;
            int place = ahead.length() + (fault.equals("d0") ? 2 : 0);
            Check.due(ahead + fault, Check.tell(x, ahead + fault), kind - place);
            Check.same("nothing came", Check.seen(x), before);
            Check.due("the IMAGE is as it was", x.restore(), 3);
            Check.same("nothing came", Check.seen(x), before);
        }
    }

    private static void textWithoutFaultAll() {
        HillsLieDown x = new HillsLieDown();
        Check.bring(x, Check.DEAD, 3, 99, 2);
        x.raises(4, 2);
        x.days(1);
        Check.due("all", Check.tell(x, "g0009;w1306000;m107;y11;d05;"), 5);
        Check.due("raised", x.height(0), 9);
        Check.due("what was there stays", x.height(4), 2);
        Check.due("who was there stays", x.walker(0, 0), Check.DEAD);
        Check.due("he has come", x.walker(1, 0), Check.RIDER);
        Check.due("FIGURE", x.walker(1, 1), 3);
        Check.due("he has gone", x.walker(1, 3), 2);
        Check.due("DAY", x.count(1), 6);
    }

    /** "The ROW of a text, and what is taken from a SHELF, stay there". */
    private static void textRowStays() {
        HillsLieDown x = new HillsLieDown();
        String[] texts = {"g0009;w1306000;", "g0009;x", "g1509;w1306000;"};
        for (String text : texts) {
            Check.rowOf(x, 0, Check.BYTES, text.chars().toArray());
            x.country(0);
            for (int i = 0; i < text.length(); i++) {
                Check.due("the ROW stays", Check.elementOrThrown(x, 0, i), text.charAt(i));
            }
            Check.due("no more", Check.elementOrThrown(x, 0, text.length()), Check.NO_ELEMENT);
        }
    }

    /** "A ROW has .. 0 .. 100 elements": a text of 100 bytes is read to its end. */
    private static void textOfFullRow() {
        HillsLieDown x = new HillsLieDown();
        x.row(7, Check.BYTES, 100);
        Check.due("zeros are no letters", x.country(7), -1000);
        for (int i = 0; i < 100; i++) {
            x.put(7, i, "d01;".charAt(i % 4));
        }
        Check.due("as many as can be", x.country(7), 25);
        Check.due("DAY", x.count(1), 25);
        x.put(7, 99, ' ');
        Check.due("the last byte", x.country(7), -1099);
        x.put(7, 99, ';');
        x.put(7, 98, '0');
        x.put(7, 97, '0');
        Check.due("the last STATEMENT", x.country(7), -2096);
        HillsLieDown y = new HillsLieDown();
        y.row(0, Check.BYTES, 100);
        for (int i = 0; i < 100; i++) {
            y.put(0, i, "g0105;".charAt(i % 6));
        }
        Check.due("the end, behind 100 bytes", y.country(0), -1100);
    }

    /** country: "-1, -11, -12 (no ROW of bytes)". */
    private static void countryRefusals() {
        HillsLieDown x = new HillsLieDown();
        String before = Check.seen(x);
        Check.dueAll("no such SHELF", -1, x.country(-1), x.country(8), x.country(MIN), x.country(MAX));
        for (int d = 0; d < 8; d++) {
            Check.due("nothing", x.country(d), -11);
        }
        x.keep(0, 1, Check.WALKER, 1);
        x.row(7, Check.SHORTS, 0);
        x.row(6, Check.INTS, 0);
        Check.rowOf(x, 5, Check.SHORTS, 'd', '0', '1', ';');
        Check.rowOf(x, 4, Check.INTS, 'd', '0', '1', ';');
        Check.dueAll("no ROW of bytes", -12, x.country(0), x.country(7), x.country(6), x.country(5), x.country(4));
        Check.same("nothing changes", Check.seen(x), before);
        Check.rowOf(x, 7, Check.BYTES, 'd', '0', '1', ';');
        Check.due("on the last SHELF", x.country(7), 1);
        x.keep(7, 0, 0, 0);
        Check.due("nothing any more", x.country(7), -11);
    }
}
