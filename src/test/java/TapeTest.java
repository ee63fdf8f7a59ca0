/** Promises 2, 3 and 4: sign, read, and place as far as the tape goes. */
public final class TapeTest {
    private static final String ROW = "m1\"a\"c1r1ga@1,2,3,4;";

    public static void main(String[] args) {
        signs();
        refusesSigns();
        holds400Bytes();
        readsUpTheTape();
        keepsTheTableWhenWrong();
        takesThePlaceOfTheTable();
        leavesNothingOfEarlierTexts();
        Due.end();
    }

    private static void signs() {
        HazardTables x = new HazardTables();
        Due.answer("one byte", 1, () -> x.sign('m', 1));
        // Bytes above the lowest n do not count.
        Due.answer("two bytes", 3, () -> x.sign(Due.packed("qqqqqq1\""), 2));
        Due.answer("eight bytes", 11, () -> x.sign(Due.packed("a\"c1r1ga"), 8));
        Due.answer("seven bytes", 18, () -> x.sign(Due.packed("@1,2,3,"), 7));
        Due.answer("two more", 20, () -> x.sign(Due.packed("4;"), 2));
        Due.answer("read()", 1, x::read);
        Due.answer("the tape is used up", 1, () -> x.sign(' ', 1));
    }

    private static void refusesSigns() {
        HazardTables x = new HazardTables();
        for (int n : new int[] {0, -1, 9, Integer.MIN_VALUE, Integer.MAX_VALUE}) {
            Due.refusal("sign(0, " + n + ")", IndexOutOfBoundsException.class, () -> x.sign(0, n));
        }
        Due.answer("nothing came on the tape", 1, () -> x.sign(' ', 1));
    }

    private static void holds400Bytes() {
        HazardTables x = new HazardTables();
        Due.put(x, " ".repeat(392));
        Due.answer("400 bytes", 400, () -> x.sign(Due.packed("        "), 8));
        Due.refusal("401 bytes", UnsupportedOperationException.class, () -> x.sign(' ', 1));
        Due.refusal("n goes before room", IndexOutOfBoundsException.class, () -> x.sign(' ', 9));
        Due.answer("400 blanks", 0, x::read);
        Due.put(x, " ".repeat(399));
        Due.refusal("two bytes into one place", UnsupportedOperationException.class, () -> x.sign(Due.packed("qq"), 2));
        Due.answer("one byte into one place", 400, () -> x.sign(' ', 1));
        Due.answer("a refused sign leaves the tape", 0, x::read);
        Due.put(x, " ".repeat(380) + ROW);
        Due.answer("a row at the end of 400 bytes", 1, x::read);
        Due.put(x, " ".repeat(381) + ROW.substring(0, 19));
        Due.refusal("400 bytes with something missing", IllegalStateException.class, x::read);
        Due.answer("its length", 400, x::place);
    }

    private static void readsUpTheTape() {
        HazardTables x = new HazardTables();
        Due.refusal("a wrong text", IllegalStateException.class, () -> Due.read(x, "q"));
        Due.answer("place()", 0, x::place);
        Due.put(x, "q");
        Due.answer("place() is of the latest read, not of the tape", 0, x::place);
        Due.refusal("a wrong text", IllegalStateException.class, x::read);
        Due.answer("an empty text, as the tape was used up", 0, x::read);
        Due.answer("place() of a right text", -1, x::place);
        Due.answer("place() again", -1, x::place);
    }

    private static void keepsTheTableWhenWrong() {
        HazardTables x = Due.with(ROW + "zr2gb@5,6,7,8;");
        x.add(1, 1);
        Due.say(x, "b");
        x.step(1);
        Due.refusal("wrong behind two rows", IllegalStateException.class,
                () -> Due.read(x, "m2\"b\"c2r2gb@1,1,1,1;zr0ga@0,0,0,0;q"));
        Due.answer("place()", 34, x::place);
        Due.answer("the old material", 1, () -> x.material(1, 0));
        Due.answer("the old general row", 2, () -> x.material(0, 1));
        Due.refusal("no new material", IllegalArgumentException.class, () -> x.material(2, 0));
        Due.answer("the old mixture", 1, () -> x.mixture(4));
        Due.answer("the old word", 1, () -> x.near(0));
        Due.answer("the old steps", 3, () -> x.step(2));
    }

    private static void takesThePlaceOfTheTable() {
        HazardTables x = Due.with(ROW.replace(";", "x19;") + "zr2gb@5,6,7,8;");
        x.add(1, 1);
        x.building(7, 0);
        x.wind(0, 1, false);
        x.mark(2, 7);
        Due.say(x, "b");
        x.step(1);
        Due.answer("read()", 1, () -> Due.read(x, "m2\"b\"c2r2gb@9,9,9,9;"));
        Due.refusal("the old material is gone", IllegalArgumentException.class, () -> x.material(1, 0));
        Due.refusal("the old general row is gone", IllegalArgumentException.class, () -> x.material(0, 0));
        Due.answer("the new one", 2, () -> x.material(2, 0));
        Due.answer("nothing of the old row", 0, () -> x.material(2, 7));
        Due.refusal("the mixture is empty", IllegalStateException.class, () -> x.mixture(4));
        Due.answer("no strictest part", -1, () -> x.strict(0));
        Due.answer("no word", -1, () -> x.near(0));
        x.add(2, 1);
        Due.answer("steps from 1 on", 2, () -> x.step(1));
        Due.answer("the wind stays", true, () -> x.in(0, 9));
        Due.answer("marks stay", true, () -> x.over(2, 7));
        Due.answer("buildings stay", 1, () -> x.building(1, 1));
        Due.answer("an empty text is an empty table", 0, x::read);
        Due.refusal("no material", IllegalArgumentException.class, () -> x.material(2, 0));
    }

    /** Texts and tables that were there before show through nowhere, the last but one neither. */
    private static void leavesNothingOfEarlierTexts() {
        HazardTables x = new HazardTables();
        String full = "m1\"a\"\"b\"\"c\"c3r4ga@1,2,3,4x123;zr2gb@5,6,7,8;";
        String bare = ROW;
        for (String text : new String[] {full, full, "q", full + "q", bare, "q", bare}) {
            Due.put(x, text);
            try {
                x.read();
            } catch (IllegalStateException e) {
                Due.answer("place() of " + text, text.length() - 1, x::place);
            }
        }
        Due.answer("no classes", 0, () -> x.material(1, 7));
        Due.answer("one name", 1, () -> x.material(1, 8));
        Due.refusal("no general row", IllegalArgumentException.class, () -> x.material(0, 1));
        for (String longer : new String[] {"m1234\"abc\"c", "        ", "zzzzzzzz", ";;;;;;;;;;", "\"\"\"\"\"\"\"\""}) {
            for (String text : new String[] {"m1", "m1 ", "m1\"a", "m1\"a\""}) {
                Due.put(x, longer);
                try {
                    x.read();
                } catch (IllegalStateException e) {
                    Due.same("the longer text is wrong", false, x.place() == -1);
                }
                Due.refusal(text + " behind " + longer, IllegalStateException.class, () -> Due.read(x, text));
                Due.answer("its length", text.length(), x::place);
            }
        }
    }
}
