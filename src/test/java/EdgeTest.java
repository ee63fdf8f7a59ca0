/**
 * Every boundary that a sentence of the document names, in the document's order: the last value that
 * is allowed, and the first that is not. What a refused call leaves as it was stands in RefusalTest.
 */
public final class EdgeTest {
    private static final Class<IllegalArgumentException> UNKNOWN = IllegalArgumentException.class;
    private static final Class<IndexOutOfBoundsException> RANGE = IndexOutOfBoundsException.class;
    private static final Class<IllegalStateException> STATE = IllegalStateException.class;
    private static final Class<UnsupportedOperationException> ROOM = UnsupportedOperationException.class;

    private static final int[][] WAYS = {{1, 0}, {1, 1}, {0, 1}, {-1, 1}, {-1, 0}, {-1, -1}, {0, -1}, {1, -1}};
    private static final String DUE = "r4ga@1,2,3,4";
    private static final String REST = "\"a\"c3" + DUE;
    private static final String ROW = "m1" + REST;
    private static final String TABLE = ROW + ";z" + DUE + ";";

    public static void main(String[] args) {
        calls();
        bytesOfAText();
        blanks();
        digits();
        numbersOfMaterials();
        names();
        lettersOfNames();
        classes();
        strictness();
        gear();
        distances();
        otherClasses();
        generalRow();
        missing();
        toldTwice();
        materials();
        anotherTable();
        parts();
        amounts();
        largeAmounts();
        numbersOutsideOfTheTable();
        contradictions();
        greatest();
        winds();
        points();
        reach();
        angle();
        placeItself();
        buildings();
        steps();
        marks();
        signs();
        places();
        whats();
        words();
        near();
        strict();
        fresh();
        firstRefusal();
        Due.end();
    }

    /** "at most 512 calls after it has been made": the 512th is answered as the first one. */
    private static void calls() {
        HazardTables x = new HazardTables();
        for (int call = 1; call <= 511; call++) {
            x.mark(call % 5, call);
        }
        Due.answer("the 512th call", true, () -> x.over(511 % 5, 511));
        HazardTables refusing = new HazardTables();
        for (int call = 1; call <= 511; call++) {
            Due.refusal("call " + call, STATE, () -> refusing.mixture(0));
        }
        Due.answer("the 512th call", 1, () -> refusing.sign(' ', 1));
    }

    /** "A TEXT has at most 400 bytes", "there would be more than 400". */
    private static void bytesOfAText() {
        for (int n = 1; n <= 8; n++) {
            int bytes = n;
            HazardTables x = new HazardTables();
            Due.put(x, " ".repeat(400 - n));
            Due.answer("up to 400 by " + n, 400, () -> x.sign(Due.packed("        "), bytes));
            HazardTables over = new HazardTables();
            Due.put(over, " ".repeat(401 - n));
            Due.refusal("up to 401 by " + n, ROOM, () -> over.sign(Due.packed("        "), bytes));
        }
        Due.right(1, " ".repeat(400 - ROW.length() - 1) + ROW + ";");
        Due.right(1, ROW + ";" + " ".repeat(400 - ROW.length() - 1));
        Due.right(0, "");
    }

    /** "blanks may stand between signs, not within numbers and names". */
    private static void blanks() {
        Due.right(1, " m 1 \"a\" \"b\" c 3 r 4 g a b @ 1 , 2 , 3 , 4 x 1 2 ; ");
        Due.right(0, " z r 4 g a b @ 1 , 2 , 3 , 4 ; ");
        Due.wrong("m1 |2" + REST + ";");
        Due.wrong("m1\"| a\"");
        Due.wrong("m1\"a| b\"");
        Due.wrong("m1\"a| \"");
        Due.wrong("m1\"a\"c1 |2r");
        Due.wrong("m1\"a\"c3r1 |0g");
        Due.wrong("m1\"a\"c3r4ga@1 |2,");
        Due.wrong("m1\"a\"c3r4ga@1,2,3,4 |4;");
    }

    /** "NUMBERS have one to four digits, without 0 in front"; wrong ones at their last byte. */
    private static void digits() {
        Due.right(1, "m1" + REST + ";");
        Due.right(1, "m1000" + REST + ";");
        Due.wrong("m|" + REST + ";");
        Due.wrong("m1000|0" + REST + ";");
        Due.wrong("m|01" + REST + ";");
        Due.wrong("m1\"a\"c|03");
        Due.wrong("m|/");
        Due.wrong("m|:");
        Due.wrong("m1|/");
        Due.wrong("m1|:");
        Due.right(1, "m1\"a\"c3r4ga@0,10,100,1000;");
        Due.wrong("m1\"a\"c3r4ga@0|0,");
        Due.wrong("m1\"a\"c3r4ga@0|1,");
        Due.wrong("m1\"a\"c3r0|4g");
    }

    /** "its NUMBER (1 .. 9,999)". */
    private static void numbersOfMaterials() {
        Due.answer("class of 1", 3, () -> Due.right(1, "m1" + REST + ";").material(1, 0));
        Due.answer("class of 9,999", 3, () -> Due.right(1, "m9999" + REST + ";").material(9999, 0));
        Due.wrong("m|0" + REST + ";");
        Due.wrong("m1000|0" + REST + ";");
    }

    /** "1 to 3 NAMES (each in " ")". */
    private static void names() {
        Due.answer("one", 1, () -> Due.right(1, "m1\"a\"c3" + DUE + ";").material(1, 8));
        Due.answer("three", 3, () -> Due.right(1, "m1\"a\"\"b\"\"c\"c3" + DUE + ";").material(1, 8));
        Due.wrong("m1|c3" + DUE + ";");
        Due.wrong("m1\"a\"\"b\"\"c\"|\"d\"c3" + DUE + ";");
        Due.wrong("m1|a\"c3");
        Due.wrong("m1\"ac|3");
    }

    /** "1 .. 10 letters a .. z". */
    private static void lettersOfNames() {
        Due.right(1, "m1\"a\"c3" + DUE + ";");
        Due.right(1, "m1\"zyxwvutsrq\"c3" + DUE + ";");
        Due.wrong("m1\"|\"c3" + DUE + ";");
        Due.wrong("m1\"abcdefghij|k\"c3" + DUE + ";");
        Due.right(1, "m1\"az\"c3" + DUE + ";");
        Due.wrong("m1\"a|`\"");
        Due.wrong("m1\"a|{\"");
        Due.wrong("m1\"|A\"");
    }

    /** "c and its CLASS (1 .. 9)". */
    private static void classes() {
        Due.answer("class 1", 1, () -> Due.right(1, "m1\"a\"c1" + DUE + ";").material(1, 0));
        Due.answer("class 9", 9, () -> Due.right(1, "m1\"a\"c9" + DUE + ";").material(1, 0));
        Due.wrong("m1\"a\"c|0" + DUE + ";");
        Due.wrong("m1\"a\"c1|0" + DUE + ";");
        Due.wrong("m1\"a\"c|" + DUE + ";");
    }

    /** "r and the STRICTNESS (0 .. 9)". */
    private static void strictness() {
        Due.answer("strictness 0", 0, () -> Due.right(1, "m1\"a\"c1r0ga@1,2,3,4;").material(1, 1));
        Due.answer("strictness 9", 9, () -> Due.right(1, "m1\"a\"c1r9ga@1,2,3,4;").material(1, 1));
        Due.wrong("m1\"a\"c1r1|0ga@1,2,3,4;");
        Due.wrong("m1\"a\"c1r|-1ga@1,2,3,4;");
        Due.answer("general strictness 0", 0, () -> Due.right(0, "zr0ga@1,2,3,4;").material(0, 1));
        Due.answer("general strictness 9", 9, () -> Due.right(0, "zr9ga@1,2,3,4;").material(0, 1));
        Due.wrong("zr1|0ga@1,2,3,4;");
        Due.wrong("zr|ga@1,2,3,4;");
    }

    /** "g and GEAR (1 to 4 letters a .. h, rising)"; "letters that do not rise at themselves". */
    private static void gear() {
        for (String start : new String[] {"m1\"a\"c1r1", "zr1"}) {
            int number = start.startsWith("m") ? 1 : 0;
            String[] allowed = {"a", "h", "ab", "gh", "ah", "abcd", "efgh"};
            int[] bits = {1, 128, 3, 192, 129, 15, 240};
            for (int i = 0; i < allowed.length; i++) {
                int at = i;
                HazardTables x = Due.right(number, start + "g" + allowed[i] + "@1,2,3,4;");
                Due.answer("gear " + allowed[i], bits[at], () -> x.material(number, 2));
            }
            Due.wrong(start + "g|@1,2,3,4;");
            Due.wrong(start + "gabcd|e@1,2,3,4;");
            Due.wrong(start + "g|`@1,2,3,4;");
            Due.wrong(start + "g|i@1,2,3,4;");
            Due.wrong(start + "gb|b@1,2,3,4;");
            Due.wrong(start + "gb|a@1,2,3,4;");
            Due.wrong(start + "gabc|c@1,2,3,4;");
        }
    }

    /** "@ and four DISTANCES (0 .. 9,999) with commas between". */
    private static void distances() {
        for (String start : new String[] {"m1\"a\"c1r1ga", "zr1ga"}) {
            int number = start.startsWith("m") ? 1 : 0;
            for (int i = 0; i < 4; i++) {
                int what = 3 + i;
                String before = start + "@" + "5,".repeat(i);
                String behind = ",5".repeat(3 - i) + ";";
                Due.answer("0", 0, () -> Due.right(number, before + "0" + behind).material(number, what));
                Due.answer("9,999", 9999, () -> Due.right(number, before + "9999" + behind).material(number, what));
                Due.wrong(before + "1000|0" + behind);
                Due.wrong(before + "|-1" + behind);
                Due.wrong(before + "|" + behind);
            }
            Due.wrong(start + "@5,5,5|;");
            Due.wrong(start + "@5,5,5,5|,5;");
            Due.wrong(start + "@5,5|;5,5;");
            Due.wrong(start + "|5,5,5,5;");
        }
    }

    /** "perhaps x and 1 to 3 CLASSES (digits 1 .. 9, rising)"; "classes that do not rise at themselves". */
    private static void otherClasses() {
        Due.answer("none", 0, () -> Due.right(1, ROW + ";").material(1, 7));
        String[] allowed = {"1", "9", "12", "89", "123", "789"};
        int[] bits = {1 << 1, 1 << 9, 3 << 1, 3 << 8, 7 << 1, 7 << 7};
        for (int i = 0; i < allowed.length; i++) {
            int at = i;
            Due.answer("x" + allowed[i], bits[i], () -> Due.right(1, ROW + "x" + allowed[at] + ";").material(1, 7));
        }
        Due.wrong(ROW + "x|;");
        Due.wrong(ROW + "x123|4;");
        Due.wrong(ROW + "x|0;");
        Due.wrong(ROW + "x|:;");
        Due.wrong(ROW + "x1|0;");
        Due.wrong(ROW + "x2|2;");
        Due.wrong(ROW + "x2|1;");
        Due.wrong(ROW + "x12|2;");
        Due.wrong(ROW + "x1|x2;");
    }

    /** "THE GENERAL row: z and what is due, as above (without x)". */
    private static void generalRow() {
        HazardTables x = Due.right(0, "zr2gb@5,6,7,8;");
        int[] cells = {0, 2, 2, 5, 6, 7, 8, 0, 0};
        for (int what = 0; what <= 8; what++) {
            int w = what;
            Due.answer("material(0, " + w + ")", cells[w], () -> x.material(0, w));
        }
        Due.wrong("z" + DUE + "|x5;");
        Due.wrong("z|1" + DUE + ";");
        Due.wrong("z|\"a\"" + DUE + ";");
        Due.wrong("z|c3" + DUE + ";");
    }

    /** "its length when something is missing": whatever the text leaves out at its end. */
    private static void missing() {
        String[] wholes = {ROW + "x12;", "m1234\"abc\" \"d\"c9r0gaceh@0,1,20,9999;", "z" + DUE + ";"};
        for (String whole : wholes) {
            Due.right(whole.startsWith("m") ? 1 : 0, whole);
            for (int length = 1; length < whole.length(); length++) {
                Due.wrong(whole.substring(0, length) + "|");
            }
        }
        Due.wrong(" ".repeat(400 - ROW.length()) + ROW + "|");
    }

    /** "a material's number or z told twice in a text likewise at its last byte". */
    private static void toldTwice() {
        Due.right(2, ROW + ";m2" + REST + ";");
        Due.wrong(ROW + ";m|1" + REST + ";");
        Due.right(2, "m1234" + REST + ";m123" + REST + ";");
        Due.wrong("m1234" + REST + ";m123|4" + REST + ";");
        Due.right(1, "z" + DUE + ";" + ROW + ";");
        Due.wrong("z" + DUE + ";|z" + DUE + ";");
        HazardTables x = new HazardTables();
        Due.answer("once in a text", 1, () -> Due.read(x, TABLE));
        Due.answer("and once in another text", 1, () -> Due.read(x, TABLE));
    }

    private static String rows(int count) {
        StringBuilder rows = new StringBuilder();
        for (int number = 1; number <= count; number++) {
            rows.append("m").append(number).append("\"a\"c3r4ga@1,2,3,4;");
        }
        return rows.toString();
    }

    /** "At most 12 materials: a thirteenth is wrong at its m"; the general row is none. */
    private static void materials() {
        Due.right(11, rows(11));
        HazardTables x = Due.right(12, rows(12));
        Due.answer("the twelfth", 3, () -> x.material(12, 0));
        Due.wrong(rows(12) + "|m13" + REST + ";");
        Due.wrong(rows(12) + "|m");
        // Its m goes before its number, told twice or wrong in itself.
        Due.wrong(rows(12) + "|m1" + REST + ";");
        Due.wrong(rows(12) + "|m0");
        Due.right(12, rows(12) + "z" + DUE + ";");
        Due.wrong(rows(12) + "z" + DUE + ";|m13" + REST + ";");
    }

    /** "A right text takes the place of the table; the mixture is empty then": the empty text too. */
    private static void anotherTable() {
        for (String text : new String[] {"", "z" + DUE + ";", ROW + ";", rows(12)}) {
            HazardTables x = Due.with("m77" + REST + ";");
            x.add(77, 1);
            Due.read(x, text);
            Due.refusal("the old material", UNKNOWN, () -> x.material(77, 0));
            Due.refusal("the mixture", STATE, () -> x.mixture(4));
        }
        HazardTables x = Due.with("m77" + REST + ";");
        x.add(77, 1);
        Due.refusal("a wrong text", STATE, () -> Due.read(x, ROW));
        Due.answer("the old material", 3, () -> x.material(77, 0));
        Due.answer("the mixture", 1, () -> x.mixture(4));
    }

    private static HazardTables withParts(int count) {
        HazardTables x = Due.with(TABLE);
        for (int part = 1; part <= count; part++) {
            x.add(part, 1);
        }
        return x;
    }

    /** "THE MIXTURE has up to 8 PARTS"; "it is empty". */
    private static void parts() {
        HazardTables x = withParts(7);
        Due.answer("the eighth", 0, () -> x.add(1, 1));
        Due.answer("eight", 8, () -> x.mixture(4));
        Due.refusal("the ninth", ROOM, () -> x.add(1, 1));
        x.clear();
        Due.refusal("none", STATE, () -> x.mixture(4));
        Due.answer("room again", 0, () -> x.add(1, 1));
        Due.answer("one", 1, () -> x.mixture(4));
    }

    /** "an AMOUNT (1 .. 100,000 litres)", "the number is not 1 .. 9,999". */
    private static void amounts() {
        HazardTables x = Due.with(TABLE);
        Due.answer("1 litre", 0, () -> x.add(1, 1));
        Due.answer("100,000 litres", 0, () -> x.add(1, 100000));
        Due.refusal("0 litres", RANGE, () -> x.add(1, 0));
        Due.refusal("100,001 litres", RANGE, () -> x.add(1, 100001));
        Due.refusal("-1 litre", RANGE, () -> x.add(1, -1));
        Due.answer("number 1", 0, () -> x.add(1, 5));
        Due.answer("number 9,999", 0, () -> x.add(9999, 5));
        Due.refusal("number 0", RANGE, () -> x.add(0, 5));
        Due.refusal("number 10,000", RANGE, () -> x.add(10000, 5));
    }

    /** "above 200 it is large": each amount alone, not their sum. */
    private static void largeAmounts() {
        int[][] dues = {{1, 1, 2}, {200, 1, 2}, {201, 3, 4}, {100000, 3, 4}};
        for (int[] due : dues) {
            for (int number : new int[] {1, 5}) {
                HazardTables x = Due.with(TABLE);
                x.add(number, due[0]);
                Due.answer(due[0] + " litres of " + number + " by day", due[1], () -> x.mixture(2));
                Due.answer(due[0] + " litres of " + number + " by night", due[2], () -> x.mixture(3));
            }
        }
        HazardTables x = Due.with(TABLE);
        x.add(1, 200);
        x.add(1, 200);
        Due.answer("twice 200 litres", 1, () -> x.mixture(2));
    }

    /** "A number that is not in the table counts by the general row, with class 0". */
    private static void numbersOutsideOfTheTable() {
        HazardTables x = Due.with("m1\"a\"c1r0ga@0,0,0,0x123;zr7gh@5,6,7,8;");
        x.add(1, 1);
        Due.answer("strictness of the table's", 0, () -> x.mixture(0));
        Due.answer("class 0 contradicts none", 0, () -> x.add(2, 1));
        Due.answer("general strictness", 7, () -> x.mixture(0));
        Due.answer("it is the strictest", 2, () -> x.strict(0));
        HazardTables without = Due.with(ROW + ";");
        Due.answer("in the table", 0, () -> without.add(1, 1));
        Due.refusal("not in the table, no general row", UNKNOWN, () -> without.add(2, 1));
    }

    /** "Two parts CONTRADICT when the class of one is among those that must not meet the other one". */
    private static void contradictions() {
        String table = "m1\"a\"c1r0ga@0,0,0,0x29;m2\"a\"c2r0ga@0,0,0,0;m3\"a\"c9r0ga@0,0,0,0;m4\"a\"c8r0ga@0,0,0,0x8;";
        HazardTables x = Due.with(table);
        x.add(1, 1);
        Due.answer("told by the one before", 1, () -> x.add(2, 1));
        Due.answer("class 9", 1, () -> x.add(3, 1));
        Due.answer("none", 0, () -> x.add(4, 1));
        Due.answer("its own class", 1, () -> x.add(4, 1));
        Due.answer("told by the new one", 2, () -> x.add(1, 1));
        Due.answer("pairs", 5, () -> x.mixture(5));
        HazardTables none = Due.with(table);
        none.add(1, 1);
        Due.answer("no pair of one part", 0, () -> none.mixture(5));
        HazardTables all = Due.with(table);
        for (int part = 0; part < 8; part++) {
            int others = part;
            Due.answer("all others", others, () -> all.add(4, 1));
        }
        Due.answer("all pairs of 8", 28, () -> all.mixture(5));
    }

    /** "the greatest of its parts', its gear all of theirs", first and last part alike. */
    private static void greatest() {
        String table = "m1\"a\"c1r9ga@9999,0,0,0;m2\"a\"c1r0gh@0,9999,0,0;";
        for (int first = 1; first <= 2; first++) {
            HazardTables x = Due.with(table);
            x.add(first, 1);
            x.add(3 - first, 1);
            int[] dues = {9, 129, 9999, 9999, 2, 0};
            for (int what = 0; what <= 5; what++) {
                int w = what;
                Due.answer("mixture(" + w + ")", dues[w], () -> x.mixture(w));
            }
        }
    }

    /** "a WIND (x, y, from -100 to 100 each, not both 0; 1, 0 at first)". */
    private static void winds() {
        HazardTables x = Due.with(TABLE);
        for (int v : new int[] {-100, 100}) {
            Due.answer("wind(" + v + ", 0)", 0, () -> x.wind(v, 0, true));
            Due.answer("wind(0, " + v + ")", 0, () -> x.wind(0, v, true));
            Due.answer("wind(" + v + ", " + v + ")", 0, () -> x.wind(v, v, false));
        }
        for (int v : new int[] {-101, 101}) {
            Due.refusal("wind(" + v + ", 0)", RANGE, () -> x.wind(v, 0, true));
            Due.refusal("wind(0, " + v + ")", RANGE, () -> x.wind(0, v, true));
            Due.refusal("wind(" + v + ", " + v + ")", RANGE, () -> x.wind(v, v, true));
        }
        for (int v : new int[] {-1, 1}) {
            Due.answer("wind(" + v + ", 0)", 0, () -> x.wind(v, 0, true));
            Due.answer("wind(0, " + v + ")", 0, () -> x.wind(0, v, true));
        }
        Due.refusal("wind(0, 0)", RANGE, () -> x.wind(0, 0, true));
        Due.refusal("wind(0, 0) by night", RANGE, () -> x.wind(0, 0, false));
        HazardTables first = Due.with("m1\"a\"c1r1ga@10,20,30,40;");
        first.add(1, 1);
        Due.answer("1, 0 at first", true, () -> first.in(10, 0));
        Due.answer("by day", false, () -> first.in(11, 0));
        Due.answer("not 0, 1", false, () -> first.in(0, 10));
    }

    /** "x, y from -10,000 to 10,000 metres from the place". */
    private static void points() {
        HazardTables x = withParts(1);
        for (int v : new int[] {-10000, 10000}) {
            Due.answer("in(" + v + ", 0)", false, () -> x.in(v, 0));
            Due.answer("in(0, " + v + ")", false, () -> x.in(0, v));
            Due.answer("in(" + v + ", " + v + ")", false, () -> x.in(v, v));
        }
        int[][] corners = {{-10000, 0}, {10000, 0}, {0, -10000}, {0, 10000}, {10000, -10000}};
        for (int i = 0; i < corners.length; i++) {
            int at = i;
            Due.answer("building at an edge", at, () -> x.building(corners[at][0], corners[at][1]));
        }
        for (int v : new int[] {-10001, 10001}) {
            Due.refusal("in(" + v + ", 0)", RANGE, () -> x.in(v, 0));
            Due.refusal("in(0, " + v + ")", RANGE, () -> x.in(0, v));
            Due.refusal("building(" + v + ", 0)", RANGE, () -> x.building(v, 0));
            Due.refusal("building(0, " + v + ")", RANGE, () -> x.building(0, v));
        }
    }

    /** "not farther than the distance": at it, and by the least that a point can be farther. */
    private static void reach() {
        HazardTables x = Due.with("m1\"a\"c1r1ga@5000,9999,0,1;");
        x.add(1, 1);
        Due.answer("5,000 along", true, () -> x.in(5000, 0));
        Due.answer("5,001 along", false, () -> x.in(5001, 0));
        Due.answer("a metre aside", false, () -> x.in(5000, 1));
        Due.answer("4,000 and 3,000", true, () -> x.in(4000, 3000));
        Due.answer("4,000 and 3,001", false, () -> x.in(4000, 3001));
        x.wind(1, 0, false);
        Due.answer("9,999 by night", true, () -> x.in(9999, 0));
        Due.answer("10,000 by night", false, () -> x.in(10000, 0));
        x.clear();
        x.add(1, 201);
        Due.answer("1 by night", true, () -> x.in(1, 0));
        Due.answer("2 by night", false, () -> x.in(2, 0));
        x.wind(1, 0, true);
        Due.answer("nothing but the place", false, () -> x.in(1, 0));
    }

    /** "not more than 45 degrees off the wind's way": eight ways, both sides, the last point and the next. */
    private static void angle() {
        HazardTables x = Due.with("m1\"a\"c1r1ga@9999,9999,9999,9999;");
        x.add(1, 1);
        for (int[] way : WAYS) {
            x.wind(100 * way[0], 100 * way[1], true);
            // The wind's way turned by 45 degrees to the left and to the right.
            int[][] sides = {{way[0] - way[1], way[1] + way[0]}, {way[0] + way[1], way[1] - way[0]}};
            for (int[] side : sides) {
                int ex = 1000 * side[0];
                int ey = 1000 * side[1];
                String call = "by " + way[0] + ", " + way[1] + ": " + ex + ", " + ey;
                Due.answer(call, true, () -> x.in(ex, ey));
                Due.answer(call + " a metre off the wind", false, () -> x.in(ex - way[0], ey - way[1]));
                Due.answer(call + " a metre with the wind", true, () -> x.in(ex + way[0], ey + way[1]));
                Due.answer(call + " behind the place", false, () -> x.in(-ex, -ey));
            }
        }
        x.wind(100, 99, true);
        Due.answer("45 degrees left of 100, 99", true, () -> x.in(1, 199));
        Due.answer("beyond", false, () -> x.in(0, 199));
        Due.answer("45 degrees right of it", true, () -> x.in(199, -1));
        Due.answer("beyond", false, () -> x.in(199, -2));
    }

    /** "but for the place itself": it is in any plume, by a distance of 0 too. */
    private static void placeItself() {
        HazardTables x = Due.with("m1\"a\"c1r1ga@0,0,0,0;");
        x.building(0, 0);
        x.building(1, 0);
        x.add(1, 1);
        for (int[] way : WAYS) {
            x.wind(way[0], way[1], true);
            Due.answer("the place", true, () -> x.in(0, 0));
            Due.answer("a metre off", false, () -> x.in(1, 0));
        }
        Due.answer("it comes to be in no plume, as it is in each", 0, () -> x.wind(-1, 0, false));
    }

    /** "BUILDINGS 0, 1, .. (at most 40)". */
    private static void buildings() {
        HazardTables x = new HazardTables();
        for (int number = 0; number < 40; number++) {
            int n = number;
            Due.answer("building " + n, n, () -> x.building(n, n));
        }
        Due.refusal("a 41st", ROOM, () -> x.building(40, 40));
        Due.answer("the other calls go on", 0, () -> x.wind(0, 1, true));
    }

    private static HazardTables ofStrictness(int strictness) {
        HazardTables x = Due.with("m1\"a\"c1r" + strictness + "ga@1,1,1,1;");
        x.add(1, 1);
        return x;
    }

    /** "3 for a strictness below 5, otherwise 6"; "1 behind the last"; "it is not 1 .. 6". */
    private static void steps() {
        int[][] dues = {{0, 3}, {4, 3}, {5, 6}, {9, 6}};
        for (int[] due : dues) {
            HazardTables x = ofStrictness(due[0]);
            for (int n = 1; n < due[1]; n++) {
                int step = n;
                Due.answer("step " + n + " of strictness " + due[0], n + 1, () -> x.step(step));
            }
            Due.answer("the last step of strictness " + due[0], 1, () -> x.step(due[1]));
            Due.answer("anew", 2, () -> x.step(1));
        }
        HazardTables x = ofStrictness(4);
        Due.refusal("step 0", RANGE, () -> x.step(0));
        Due.refusal("step 7", RANGE, () -> x.step(7));
        Due.refusal("step 2 at first", STATE, () -> x.step(2));
        Due.refusal("step 6 at first", STATE, () -> x.step(6));
        x.step(1);
        Due.refusal("step 1 again", STATE, () -> x.step(1));
        x.step(2);
        x.step(3);
        Due.refusal("step 4 of three", STATE, () -> x.step(4));
        x.step(1);
        x.clear();
        Due.refusal("step 1 of none", STATE, () -> x.step(1));
        x.add(1, 1);
        Due.refusal("step 2 behind clear()", STATE, () -> x.step(2));
        Due.answer("steps begin anew", 2, () -> x.step(1));
    }

    /** "MARKS of the kinds 0 .. 4 (1,000 at first)"; "it is below 0"; "at the mark, or above". */
    private static void marks() {
        HazardTables x = new HazardTables();
        for (int kind = 0; kind <= 4; kind++) {
            int k = kind;
            Due.answer("999 of " + k, false, () -> x.over(k, 999));
            Due.answer("1,000 of " + k, true, () -> x.over(k, 1000));
            Due.answer("1,001 of " + k, true, () -> x.over(k, 1001));
        }
        Due.refusal("over(-1)", UNKNOWN, () -> x.over(-1, 0));
        Due.refusal("over(5)", UNKNOWN, () -> x.over(5, 0));
        Due.refusedDeed("mark(-1)", UNKNOWN, () -> x.mark(-1, 0));
        Due.refusedDeed("mark(5)", UNKNOWN, () -> x.mark(5, 0));
        Due.refusedDeed("mark(0, -1)", RANGE, () -> x.mark(0, -1));
        Due.done("mark(0, 0)", () -> x.mark(0, 0));
        Due.answer("-1 by a mark of 0", false, () -> x.over(0, -1));
        Due.answer("0 by a mark of 0", true, () -> x.over(0, 0));
        Due.done("mark(4, highest)", () -> x.mark(4, Integer.MAX_VALUE));
        Due.answer("one below the highest", false, () -> x.over(4, Integer.MAX_VALUE - 1));
        Due.answer("the highest", true, () -> x.over(4, Integer.MAX_VALUE));
    }

    /** "n bytes (1 .. 8; the lowest n, the highest of these first)". */
    private static void signs() {
        HazardTables x = new HazardTables();
        Due.refusal("0 bytes", RANGE, () -> x.sign(' ', 0));
        Due.refusal("9 bytes", RANGE, () -> x.sign(' ', 9));
        Due.answer("1 byte", 1, () -> x.sign(Due.packed("zzzzzzzm"), 1));
        Due.answer("8 bytes", 9, () -> x.sign(Due.packed("1\"a\"c3r4"), 8));
        Due.answer("7 bytes", 16, () -> x.sign(Due.packed("zga@1,2,"), 7));
        Due.answer("4 bytes", 20, () -> x.sign(Due.packed("\u00ff\u00ff\u00ff\u00ff3,4;"), 4));
        Due.answer("read()", 1, x::read);
        Due.answer("the tape is used up", 1, () -> x.sign(' ', 1));
        HazardTables negative = new HazardTables();
        Due.answer("the highest byte has its highest bit", 8, () -> negative.sign(-1L, 8));
        Due.refusal("such a byte", STATE, negative::read);
        Due.answer("wrong at it", 0, negative::place);
    }

    /** "Where the latest text was wrong; -1 when it was right, or there was none". */
    private static void places() {
        HazardTables x = new HazardTables();
        Due.answer("there was none", -1, x::place);
        Due.put(x, " ".repeat(399) + "q");
        Due.answer("it was not read yet", -1, x::place);
        Due.refusal("wrong at its last byte", STATE, x::read);
        Due.answer("the last byte's place", 399, x::place);
        Due.refusal("wrong at its first byte", STATE, () -> Due.read(x, "q"));
        Due.answer("the first byte's place", 0, x::place);
        Due.answer("the tape was used up", 0, x::read);
        Due.answer("it was right", -1, x::place);
        Due.put(x, " ".repeat(399) + "m");
        Due.refusal("something is missing behind 400 bytes", STATE, x::read);
        Due.answer("its length", 400, x::place);
    }

    /** "no such what", "there is none such". */
    private static void whats() {
        HazardTables x = withParts(1);
        for (int number = 0; number <= 1; number++) {
            int n = number;
            int[] cells = n == 0 ? new int[] {0, 4, 1, 1, 2, 3, 4, 0, 0} : new int[] {3, 4, 1, 1, 2, 3, 4, 0, 1};
            for (int what = 0; what <= 8; what++) {
                int w = what;
                Due.answer("material(" + n + ", " + w + ")", cells[w], () -> x.material(n, w));
            }
            Due.refusal("material(" + n + ", -1)", UNKNOWN, () -> x.material(n, -1));
            Due.refusal("material(" + n + ", 9)", UNKNOWN, () -> x.material(n, 9));
        }
        Due.refusal("material(2, 0)", UNKNOWN, () -> x.material(2, 0));
        Due.refusal("material(-1, 0)", UNKNOWN, () -> x.material(-1, 0));
        HazardTables without = Due.with(ROW + ";");
        Due.refusal("material(0, 0) without such a row", UNKNOWN, () -> without.material(0, 0));
        Due.answer("mixture(0)", 4, () -> x.mixture(0));
        Due.answer("mixture(5)", 0, () -> x.mixture(5));
        Due.refusal("mixture(-1)", UNKNOWN, () -> x.mixture(-1));
        Due.refusal("mixture(6)", UNKNOWN, () -> x.mixture(6));
    }

    /** "n 1 .. 8", "a byte is no letter a .. z", "the table has no materials", "of the same the lowest number". */
    private static void words() {
        HazardTables x = Due.with("m9\"a\"c3" + DUE + ";m2\"zzzzzzzz\"c3" + DUE + ";m5\"a\"\"zzzzzzzz\"c3" + DUE + ";");
        Due.answer("1 letter", 5, () -> x.say('a', 1));
        Due.answer("8 letters", 2, () -> x.say(Due.packed("zzzzzzzz"), 8));
        Due.refusal("0 letters", RANGE, () -> x.say('a', 0));
        Due.refusal("9 letters", RANGE, () -> x.say(Due.packed("aaaaaaaa"), 9));
        for (int at = 0; at < 8; at++) {
            for (String other : new String[] {"`", "{", "A", " "}) {
                String word = "a".repeat(at) + other + "z".repeat(7 - at);
                Due.refusal("say " + word, RANGE, () -> Due.say(x, word));
            }
        }
        Due.answer("a byte above the n lowest is free", 2, () -> x.say(Due.packed("{zzzzzzz"), 7));
        for (String none : new String[] {"", "z" + DUE + ";"}) {
            HazardTables empty = Due.with(none);
            Due.refusal("no materials", STATE, () -> Due.say(empty, "a"));
        }
        HazardTables one = Due.with(ROW + ";");
        Due.answer("one material is near enough for any word", 1, () -> Due.say(one, "zzzzzzzz"));
    }

    /** "-1 when there are not so many, and without a word (or behind another table)"; "i is below 0". */
    private static void near() {
        HazardTables x = Due.with(rows(12));
        Due.answer("without a word", -1, () -> x.near(0));
        Due.refusal("near(-1) without a word", RANGE, () -> x.near(-1));
        Due.say(x, "b");
        Due.answer("the first of 12", 1, () -> x.near(0));
        Due.answer("the last of 12", 12, () -> x.near(11));
        Due.answer("one behind the last", -1, () -> x.near(12));
        Due.answer("far behind the last", -1, () -> x.near(Integer.MAX_VALUE));
        Due.refusal("near(-1)", RANGE, () -> x.near(-1));
        Due.read(x, rows(12));
        Due.answer("behind another table, the same one too", -1, () -> x.near(0));
    }

    /** "-1 when there are not so many"; "i is below 0". */
    private static void strict() {
        HazardTables x = withParts(8);
        Due.answer("the first of 8", 1, () -> x.strict(0));
        Due.answer("the last of 8", 8, () -> x.strict(7));
        Due.answer("one behind the last", -1, () -> x.strict(8));
        Due.answer("far behind the last", -1, () -> x.strict(Integer.MAX_VALUE));
        Due.refusal("strict(-1)", RANGE, () -> x.strict(-1));
        x.clear();
        Due.answer("the first of none", -1, () -> x.strict(0));
        Due.refusal("strict(-1) of none", RANGE, () -> x.strict(-1));
    }

    /** "-1 when there are not so many"; "i is below 0"; "of an empty one none". */
    private static void fresh() {
        HazardTables x = Due.with("m1\"a\"c1r1ga@50,50,50,50;");
        for (int number = 0; number < 40; number++) {
            x.building(0, 40 - number);
        }
        Due.answer("before a wind", -1, () -> x.fresh(0));
        Due.answer("none of an empty mixture", 0, () -> x.wind(0, 1, true));
        Due.answer("none of them", -1, () -> x.fresh(0));
        x.wind(1, 0, true);
        x.add(1, 1);
        Due.answer("all come in", 40, () -> x.wind(0, 1, true));
        Due.answer("the first of 40", 0, () -> x.fresh(0));
        Due.answer("the last of 40", 39, () -> x.fresh(39));
        Due.answer("one behind the last", -1, () -> x.fresh(40));
        Due.answer("far behind the last", -1, () -> x.fresh(Integer.MAX_VALUE));
        Due.refusal("fresh(-1)", RANGE, () -> x.fresh(-1));
        Due.answer("none comes in twice", 0, () -> x.wind(0, 2, true));
        Due.answer("the latest wind's alone", -1, () -> x.fresh(0));
    }

    /** "the first of these that is so": unknown, range, state, room. */
    private static void firstRefusal() {
        HazardTables full = new HazardTables();
        Due.put(full, " ".repeat(400));
        Due.refusal("sign: range before room", RANGE, () -> full.sign(0, 9));
        HazardTables none = new HazardTables();
        Due.refusal("say: range before state", RANGE, () -> none.say('A', 1));
        Due.refusal("add: unknown before the number's range", UNKNOWN, () -> none.add(0, 1));
        Due.refusal("add: unknown before the amount's range", UNKNOWN, () -> none.add(1, 0));
        Due.refusal("mixture: unknown before state", UNKNOWN, () -> none.mixture(6));
        Due.refusal("in: range before state", RANGE, () -> none.in(10001, 0));
        Due.refusal("step: range before state", RANGE, () -> none.step(7));
        Due.refusedDeed("mark: unknown before range", UNKNOWN, () -> none.mark(5, -1));
        HazardTables eight = withParts(8);
        Due.refusal("add: range before room", RANGE, () -> eight.add(1, 0));
        Due.refusal("add: the number's range before room", RANGE, () -> eight.add(10000, 1));
        HazardTables without = Due.with(ROW + ";");
        for (int part = 0; part < 8; part++) {
            without.add(1, 1);
        }
        Due.refusal("add: unknown before room", UNKNOWN, () -> without.add(2, 1));
        HazardTables crowded = new HazardTables();
        for (int number = 0; number < 40; number++) {
            crowded.building(0, 0);
        }
        Due.refusal("building: range before room", RANGE, () -> crowded.building(0, 10001));
    }
}
