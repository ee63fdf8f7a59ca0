/** Promises 3 and 4, and the terms of a text: where a text is wrong, and which texts are right. */
public final class PlaceTest {
    private static final String DUE = "r4ga@1,2,3,4";
    private static final String ROW = "m1\"a\"c3" + DUE;

    public static void main(String[] args) {
        numbers();
        names();
        classAndStrictness();
        gear();
        distances();
        otherClasses();
        toldTwice();
        thirteenth();
        rowsAndBlanks();
        missing();
        Due.end();
    }

    private static void numbers() {
        Due.right(1, "m1" + ROW.substring(2) + ";");
        Due.right(1, "m9999" + ROW.substring(2) + ";");
        Due.right(1, "m1000" + ROW.substring(2) + ";");
        Due.wrong("m|0");
        Due.wrong("m|01");
        Due.wrong("m|0001\"a\"");
        Due.wrong("m1234|5");
        Due.wrong("m1234|56\"a\"");
        Due.wrong("m1000|0\"a\"");
        Due.wrong("m1 |2\"a\"");
        Due.wrong("m|\"a\"");
        Due.wrong("m|-1");
        Due.wrong("m|a");
        Due.wrong("m|;");
    }

    private static void names() {
        Due.answer("three names", 3, () -> Due.right(1, "m7\"abcdefghij\" \"z\"\"klmnopqrst\"c3" + DUE + ";").material(7, 8));
        Due.wrong("m1|c");
        Due.wrong("m1\"|\"");
        Due.wrong("m1\"abcdefghij|k\"");
        Due.wrong("m1\"|A\"");
        Due.wrong("m1\"a|1\"");
        Due.wrong("m1\"| a\"");
        Due.wrong("m1\"a| \"");
        Due.wrong("m1\"a| b\"");
        Due.wrong("m1\"|`\"");
        Due.wrong("m1\"|{\"");
        Due.wrong("m1\"|\u00e1\"");
        Due.wrong("m1\"a\"\"b\"\"c\"|\"d\"");
        Due.wrong("m1\"a\"|,\"b\"");
    }

    private static void classAndStrictness() {
        Due.answer("class 9", 9, () -> Due.right(1, "m1\"a\"c9" + DUE + ";").material(1, 0));
        Due.answer("strictness 0", 0, () -> Due.right(1, "m1\"a\"c1r0ga@1,2,3,4;").material(1, 1));
        Due.answer("strictness 9", 9, () -> Due.right(1, "m1\"a\"c1r9ga@1,2,3,4;").material(1, 1));
        Due.wrong("m1\"a\"|r");
        Due.wrong("m1\"a\"c|0");
        Due.wrong("m1\"a\"c|01");
        Due.wrong("m1\"a\"c1|0");
        Due.wrong("m1\"a\"c1|2r");
        Due.wrong("m1\"a\"c|r");
        Due.wrong("m1\"a\"c1|c");
        Due.wrong("m1\"a\"c1 |2");
        Due.wrong("m1\"a\"c3r|g");
        Due.wrong("m1\"a\"c3r1|0");
        Due.wrong("m1\"a\"c3r9|9g");
        Due.wrong("m1\"a\"c3r0|4g");
        Due.wrong("m1\"a\"c3r0|0g");
        // A number out of range is wrong at its last byte.
        Due.wrong("m1\"a\"c3r10|0g");
        Due.wrong("m1\"a\"c12|3r");
        Due.wrong("m1\"a\"c3r123|4g");
        Due.wrong("m1\"a\"c3r123|45g");
        Due.wrong("m1\"a\"c|;");
        Due.wrong("m1\"a\"c3r|;");
        Due.wrong("zr|z");
        Due.wrong("z|g");
    }

    private static void gear() {
        Due.answer("all four", 0b11110000, () -> Due.right(1, "m1\"a\"c1r1gefgh@1,2,3,4;").material(1, 2));
        Due.wrong("m1\"a\"c3r4g|@");
        Due.wrong("m1\"a\"c3r4gb|a");
        Due.wrong("m1\"a\"c3r4ga|a");
        Due.wrong("m1\"a\"c3r4g|i");
        Due.wrong("m1\"a\"c3r4g|`");
        Due.wrong("m1\"a\"c3r4ga|i");
        Due.wrong("m1\"a\"c3r4gabcd|e");
        Due.wrong("m1\"a\"c3r4ga c |b@");
        Due.wrong("m1\"a\"c3r4gh|,");
        Due.wrong("zr4gb|a");
        Due.wrong("zr4g|;");
        Due.wrong("m1\"a\"c3r4g|;");
        Due.wrong("m1\"a\"c3r4g|x1;");
    }

    private static void distances() {
        HazardTables x = Due.right(1, "m1\"a\"c1r1ga@0,9999,1000,10;");
        Due.answer("the first distance", 0, () -> x.material(1, 3));
        Due.answer("the second distance", 9999, () -> x.material(1, 4));
        Due.answer("the third distance", 1000, () -> x.material(1, 5));
        Due.answer("the fourth distance", 10, () -> x.material(1, 6));
        Due.wrong("m1\"a\"c3r4ga@1,2,3|;");
        Due.wrong("m1\"a\"c3r4ga@1,2,3,1000|0");
        Due.wrong("m1\"a\"c3r4ga@1234|567,");
        Due.wrong("m1\"a\"c3r4ga@|,");
        Due.wrong("m1\"a\"c3r4ga@1,2,3,4|,");
        Due.wrong("m1\"a\"c3r4ga@0|5,");
        Due.wrong("m1\"a\"c3r4ga@0|0,");
        Due.wrong("m1\"a\"c3r4ga@0|55,");
        Due.wrong("m1\"a\"c3r4ga@1,2,3,0|4;");
        Due.wrong("m1\"a\"c3r4ga@1 |0,");
        Due.wrong("m1\"a\"c3r4ga@0 |0,");
        Due.wrong("m1\"a\"c3r4ga@1,2,|-3");
        Due.wrong("m1\"a\"c3r4ga@1,2,3,4|@");
    }

    private static void otherClasses() {
        Due.answer("three classes", 1 << 7 | 1 << 8 | 1 << 9, () -> Due.right(1, ROW + "x789;").material(1, 7));
        Due.wrong(ROW + "x|0");
        Due.wrong(ROW + "x|;");
        Due.wrong(ROW + "x123|4");
        Due.wrong(ROW + "x2|1;");
        Due.wrong(ROW + "x2|2;");
        Due.wrong(ROW + "x9|9");
        Due.wrong(ROW + "x1|0");
        Due.wrong(ROW + "x1|,2");
        Due.wrong(ROW + "x1|x");
        Due.wrong(ROW + "x|a");
        Due.wrong("z" + DUE + "|x5;");
    }

    private static void toldTwice() {
        String other = ROW.substring(2);
        Due.wrong(ROW + ";m|1");
        Due.wrong(ROW + ";m|1\"b\"");
        Due.wrong(ROW + ";m  |1 \"b\"");
        Due.wrong("m123" + other + ";m12|3;");
        // Behind its fourth digit no number goes on, so nothing that follows can help.
        Due.wrong("m1234" + other + ";m123|45");
        Due.right(2, ROW + ";m11" + other + ";");
        Due.right(2, "m11" + other + ";m1" + other + ";");
        Due.right(2, ROW + ";m2\"a\"\"a\"c3" + DUE + ";");
        Due.wrong("z" + DUE + ";|z");
        Due.wrong("z" + DUE + ";" + ROW + "; |z" + DUE + ";");
        Due.right(1, "z" + DUE + ";" + ROW + ";");
        Due.right(1, ROW + ";z" + DUE + ";");
    }

    private static void thirteenth() {
        StringBuilder twelve = new StringBuilder();
        for (int number = 1; number <= 12; number++) {
            twelve.append("m").append(number).append("\"a\"c3r4ga@1,2,3,4;");
        }
        Due.right(12, twelve.toString());
        Due.right(12, twelve + "z" + DUE + ";");
        Due.right(12, "z" + DUE + ";" + twelve);
        Due.wrong(twelve + "|m");
        Due.wrong(twelve + " |m13\"a\"");
        Due.wrong(twelve + "z" + DUE + ";|m1");
    }

    private static void rowsAndBlanks() {
        Due.right(0, "");
        Due.right(0, "    ");
        Due.right(1, "  m  1  \"a\"  c  3  r  4  g  a  b  @  1  ,  2  ,  3  ,  4  x  1  2  ;  ");
        Due.right(0, " z r 4 g a b @ 1 , 2 , 3 , 4 ; ");
        Due.wrong("|q");
        Due.wrong("|;");
        Due.wrong("|M1");
        Due.wrong("|\tm1");
        Due.wrong("|\u0000");
        Due.wrong("|\u00ff");
        Due.wrong(" |\n");
        Due.wrong(ROW + ";|;");
        Due.wrong(ROW + "|m2");
        Due.wrong(ROW + "; |1");
        Due.wrong("m|\t1");
    }

    /** Where something is missing, the place is the length, blanks at the end too. */
    private static void missing() {
        for (String whole : new String[] {"m12\"ab\" \"c\" c3 r4 g a b@1,20,300,4000 x 1 2;", " z r4gab @1, 2,3 , 44;"}) {
            for (int length = whole.indexOf(whole.trim()) + 1; length < whole.length(); length++) {
                Due.wrong(whole.substring(0, length) + "|");
            }
        }
        Due.wrong("m|");
        Due.wrong("m1 |");
        Due.wrong("m1\"|");
        Due.wrong("m1\"abcdefghij|");
        Due.wrong(ROW + "|");
        Due.wrong(ROW + "x|");
        Due.wrong(ROW + ";z|");
    }
}
