/** Promises 3 and 4, and the terms of a text: where a text is wrong, and which texts are right. */
public final class PlaceTest {
    private static final String DUE = "r4ga@1,2,3,4";
    private static final String ROW = "m1\"a\"c3" + DUE;

    public static void main(String[] args) {
        numbers();
        names();
        classAndStrictness();
        gear();
        distances();
        otherClasses();
        toldTwice();
        thirteenth();
        rowsAndBlanks();
        missing();
        Due.end();
    }

    /** The text up to the bar is right so far; the byte behind the bar is wrong. */
    private static void wrong(String barred) {
        int bar = barred.indexOf('|');
        String text = barred.substring(0, bar) + barred.substring(bar + 1);
        HazardTables x = new HazardTables();
        Due.refusal(text, IllegalStateException.class, () -> Due.read(x, text));
        Due.answer("place() of " + text, bar, x::place);
    }

    private static HazardTables right(int materials, String text) {
        HazardTables x = new HazardTables();
        Due.answer(text, materials, () -> Due.read(x, text));
        Due.answer("place() of " + text, -1, x::place);
        return x;
    }

    private static void numbers() {
        right(1, "m1" + ROW.substring(2) + ";");
        right(1, "m9999" + ROW.substring(2) + ";");
        right(1, "m1000" + ROW.substring(2) + ";");
        wrong("m|0");
        wrong("m|01");
        wrong("m|0001\"a\"");
        wrong("m1234|5");
        wrong("m1234|56\"a\"");
        wrong("m1000|0\"a\"");
        wrong("m1 |2\"a\"");
        wrong("m|\"a\"");
        wrong("m|-1");
        wrong("m|a");
        wrong("m|;");
    }

    private static void names() {
        Due.answer("three names", 3, () -> right(1, "m7\"abcdefghij\" \"z\"\"klmnopqrst\"c3" + DUE + ";").material(7, 8));
        wrong("m1|c");
        wrong("m1\"|\"");
        wrong("m1\"abcdefghij|k\"");
        wrong("m1\"|A\"");
        wrong("m1\"a|1\"");
        wrong("m1\"| a\"");
        wrong("m1\"a| \"");
        wrong("m1\"a| b\"");
        wrong("m1\"|`\"");
        wrong("m1\"|{\"");
        wrong("m1\"|\u00e1\"");
        wrong("m1\"a\"\"b\"\"c\"|\"d\"");
        wrong("m1\"a\"|,\"b\"");
    }

    private static void classAndStrictness() {
        Due.answer("class 9", 9, () -> right(1, "m1\"a\"c9" + DUE + ";").material(1, 0));
        Due.answer("strictness 0", 0, () -> right(1, "m1\"a\"c1r0ga@1,2,3,4;").material(1, 1));
        Due.answer("strictness 9", 9, () -> right(1, "m1\"a\"c1r9ga@1,2,3,4;").material(1, 1));
        wrong("m1\"a\"|r");
        wrong("m1\"a\"c|0");
        wrong("m1\"a\"c|01");
        wrong("m1\"a\"c1|0");
        wrong("m1\"a\"c1|2r");
        wrong("m1\"a\"c|r");
        wrong("m1\"a\"c1|c");
        wrong("m1\"a\"c1 |2");
        wrong("m1\"a\"c3r|g");
        wrong("m1\"a\"c3r1|0");
        wrong("m1\"a\"c3r9|9g");
        wrong("m1\"a\"c3r0|4g");
        wrong("m1\"a\"c3r0|0g");
        // A number out of range is wrong at its last byte.
        wrong("m1\"a\"c3r10|0g");
        wrong("m1\"a\"c12|3r");
        wrong("m1\"a\"c|;");
        wrong("m1\"a\"c3r|;");
        wrong("zr|z");
        wrong("z|g");
    }

    private static void gear() {
        Due.answer("all four", 0b11110000, () -> right(1, "m1\"a\"c1r1gefgh@1,2,3,4;").material(1, 2));
        wrong("m1\"a\"c3r4g|@");
        wrong("m1\"a\"c3r4gb|a");
        wrong("m1\"a\"c3r4ga|a");
        wrong("m1\"a\"c3r4g|i");
        wrong("m1\"a\"c3r4g|`");
        wrong("m1\"a\"c3r4ga|i");
        wrong("m1\"a\"c3r4gabcd|e");
        wrong("m1\"a\"c3r4ga c |b@");
        wrong("m1\"a\"c3r4gh|,");
        wrong("zr4gb|a");
        wrong("zr4g|;");
        wrong("m1\"a\"c3r4g|;");
        wrong("m1\"a\"c3r4g|x1;");
    }

    private static void distances() {
        HazardTables x = right(1, "m1\"a\"c1r1ga@0,9999,1000,10;");
        Due.answer("the first distance", 0, () -> x.material(1, 3));
        Due.answer("the second distance", 9999, () -> x.material(1, 4));
        Due.answer("the third distance", 1000, () -> x.material(1, 5));
        Due.answer("the fourth distance", 10, () -> x.material(1, 6));
        wrong("m1\"a\"c3r4ga@1,2,3|;");
        wrong("m1\"a\"c3r4ga@1,2,3,1000|0");
        wrong("m1\"a\"c3r4ga@1234|567,");
        wrong("m1\"a\"c3r4ga@|,");
        wrong("m1\"a\"c3r4ga@1,2,3,4|,");
        wrong("m1\"a\"c3r4ga@0|5,");
        wrong("m1\"a\"c3r4ga@0|0,");
        wrong("m1\"a\"c3r4ga@0|55,");
        wrong("m1\"a\"c3r4ga@1,2,3,0|4;");
        wrong("m1\"a\"c3r4ga@1 |0,");
        wrong("m1\"a\"c3r4ga@0 |0,");
        wrong("m1\"a\"c3r4ga@1,2,|-3");
        wrong("m1\"a\"c3r4ga@1,2,3,4|@");
    }

    private static void otherClasses() {
        Due.answer("three classes", 1 << 7 | 1 << 8 | 1 << 9, () -> right(1, ROW + "x789;").material(1, 7));
        wrong(ROW + "x|0");
        wrong(ROW + "x|;");
        wrong(ROW + "x123|4");
        wrong(ROW + "x2|1;");
        wrong(ROW + "x2|2;");
        wrong(ROW + "x9|9");
        wrong(ROW + "x1|0");
        wrong(ROW + "x1|,2");
        wrong(ROW + "x1|x");
        wrong(ROW + "x|a");
        wrong("z" + DUE + "|x5;");
    }

    private static void toldTwice() {
        String other = ROW.substring(2);
        wrong(ROW + ";m|1");
        wrong(ROW + ";m|1\"b\"");
        wrong(ROW + ";m  |1 \"b\"");
        wrong("m123" + other + ";m12|3;");
        wrong("m1234" + other + ";m1234|5");
        right(2, ROW + ";m11" + other + ";");
        right(2, "m11" + other + ";m1" + other + ";");
        right(2, ROW + ";m2\"a\"\"a\"c3" + DUE + ";");
        wrong("z" + DUE + ";|z");
        wrong("z" + DUE + ";" + ROW + "; |z" + DUE + ";");
        right(1, "z" + DUE + ";" + ROW + ";");
        right(1, ROW + ";z" + DUE + ";");
    }

    private static void thirteenth() {
        StringBuilder twelve = new StringBuilder();
        for (int number = 1; number <= 12; number++) {
            twelve.append("m").append(number).append("\"a\"c3r4ga@1,2,3,4;");
        }
        right(12, twelve.toString());
        right(12, twelve + "z" + DUE + ";");
        right(12, "z" + DUE + ";" + twelve);
        wrong(twelve + "|m");
        wrong(twelve + " |m13\"a\"");
        wrong(twelve + "z" + DUE + ";|m1");
    }

    private static void rowsAndBlanks() {
        right(0, "");
        right(0, "    ");
        right(1, "  m  1  \"a\"  c  3  r  4  g  a  b  @  1  ,  2  ,  3  ,  4  x  1  2  ;  ");
        right(0, " z r 4 g a b @ 1 , 2 , 3 , 4 ; ");
        wrong("|q");
        wrong("|;");
        wrong("|M1");
        wrong("|\tm1");
        wrong("|\u0000");
        wrong("|\u00ff");
        wrong(" |\n");
        wrong(ROW + ";|;");
        wrong(ROW + "|m2");
        wrong(ROW + "; |1");
        wrong("m|\t1");
    }

    /** Where something is missing, the place is the length, blanks at the end too. */
    private static void missing() {
        for (String whole : new String[] {"m12\"ab\" \"c\" c3 r4 g a b@1,20,300,4000 x 1 2;", " z r4gab @1, 2,3 , 44;"}) {
            for (int length = whole.indexOf(whole.trim()) + 1; length < whole.length(); length++) {
                wrong(whole.substring(0, length) + "|");
            }
        }
        wrong("m|");
        wrong("m1 |");
        wrong("m1\"|");
        wrong("m1\"abcdefghij|");
        wrong(ROW + "|");
        wrong(ROW + "x|");
        wrong(ROW + ";z|");
    }
}
