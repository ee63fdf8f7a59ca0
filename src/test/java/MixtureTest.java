/** Promises 8 to 11: add, clear, mixture and strict. */
public final class MixtureTest {
    private static final String TABLE = "m5\"a\"c1r4gb@1,2,30,40x2;m6\"ab\"c2r5gc@20,3,1,9;m7\"abc\"c3r0gd@0,0,0,0x13;";
    private static final String GENERAL = "zr5gah@7,8,9,10;";

    public static void main(String[] args) {
        whole();
        amounts();
        contradictions();
        generalRow();
        strictest();
        refusals();
        clears();
        Due.end();
    }

    private static void is(HazardTables x, int... answers) {
        for (int what = 0; what < answers.length; what++) {
            int w = what;
            Due.answer("mixture(" + w + ")", answers[w], () -> x.mixture(w));
        }
    }

    private static void whole() {
        HazardTables x = Due.with(TABLE);
        Due.answer("add(7, 1)", 0, () -> x.add(7, 1));
        is(x, 0, 0b1000, 0, 0, 1, 0);
        Due.answer("add(5, 1)", 1, () -> x.add(5, 1));
        is(x, 4, 0b1010, 1, 2, 2, 1);
        Due.answer("add(6, 1)", 1, () -> x.add(6, 1));
        is(x, 5, 0b1110, 20, 3, 3, 2);
        Due.answer("add(5, 100000)", 2, () -> x.add(5, 100000));
        is(x, 5, 0b1110, 30, 40, 4, 4);
    }

    private static void amounts() {
        HazardTables x = Due.with(TABLE);
        x.add(5, 200);
        is(x, 4, 0b10, 1, 2, 1, 0);
        x.add(5, 200);
        is(x, 4, 0b10, 1, 2, 2, 0);
        x.add(5, 201);
        is(x, 4, 0b10, 30, 40, 3, 0);
    }

    private static void contradictions() {
        HazardTables x = Due.with(TABLE);
        Due.answer("a material that must not meet itself", 0, () -> x.add(7, 1));
        Due.answer("the second of it", 1, () -> x.add(7, 1));
        Due.answer("the third of it", 2, () -> x.add(7, 1));
        is(x, 0, 0b1000, 0, 0, 3, 3);
        Due.answer("told by the other one", 3, () -> x.add(5, 1));
        Due.answer("told by one of them", 1, () -> x.add(6, 1));
        Due.answer("told by this one", 4, () -> x.add(7, 1));
        Due.answer("pairs", 11, () -> x.mixture(5));
        HazardTables both = Due.with("m1\"a\"c1r0ga@0,0,0,0x2;m2\"a\"c2r0ga@0,0,0,0x1;m3\"a\"c3r0ga@0,0,0,0x4;");
        Due.answer("add(1, 1)", 0, () -> both.add(1, 1));
        Due.answer("both ways are one pair", 1, () -> both.add(2, 1));
        Due.answer("none", 0, () -> both.add(3, 1));
        Due.answer("pairs", 1, () -> both.mixture(5));
    }

    private static void generalRow() {
        HazardTables x = Due.with(TABLE + GENERAL);
        Due.answer("add(8, 200)", 0, () -> x.add(8, 200));
        is(x, 5, 0b10000001, 7, 8, 1, 0);
        Due.answer("add(9999, 201)", 0, () -> x.add(9999, 201));
        is(x, 5, 0b10000001, 9, 10, 2, 0);
        Due.answer("class 0 meets all", 0, () -> x.add(7, 1));
        Due.answer("strict(0)", 8, () -> x.strict(0));
        Due.answer("strict(1)", 9999, () -> x.strict(1));
        Due.answer("strict(2)", -1, () -> x.strict(2));
    }

    private static void strictest() {
        HazardTables x = Due.with(TABLE + GENERAL);
        Due.answer("of none", -1, () -> x.strict(0));
        x.add(7, 1);
        Due.answer("of one", 7, () -> x.strict(0));
        x.add(5, 1);
        x.add(7, 1);
        x.add(5, 300);
        Due.answer("strict(0)", 5, () -> x.strict(0));
        Due.answer("strict(1)", 5, () -> x.strict(1));
        Due.answer("strict(2)", -1, () -> x.strict(2));
        x.add(6, 1);
        x.add(1, 1);
        x.add(6, 1);
        Due.answer("strict(0)", 6, () -> x.strict(0));
        Due.answer("strict(1)", 1, () -> x.strict(1));
        Due.answer("strict(2)", 6, () -> x.strict(2));
        Due.answer("strict(3)", -1, () -> x.strict(3));
        Due.answer("strict(the highest)", -1, () -> x.strict(Integer.MAX_VALUE));
        Due.refusal("strict(-1)", IndexOutOfBoundsException.class, () -> x.strict(-1));
        Due.refusal("strict(the lowest)", IndexOutOfBoundsException.class, () -> x.strict(Integer.MIN_VALUE));
    }

    private static void refusals() {
        HazardTables without = Due.with(TABLE);
        Due.refusal("not in the table", IllegalArgumentException.class, () -> without.add(8, 1));
        Due.refusal("unknown goes before range", IllegalArgumentException.class, () -> without.add(10000, 1));
        Due.refusal("unknown goes before the amount", IllegalArgumentException.class, () -> without.add(8, 0));
        Due.refusal("number 0", IllegalArgumentException.class, () -> without.add(0, 1));
        Due.refusal("the amount", IndexOutOfBoundsException.class, () -> without.add(5, 0));
        HazardTables x = Due.with(TABLE + GENERAL);
        for (int number : new int[] {0, -1, 10000, Integer.MIN_VALUE, Integer.MAX_VALUE}) {
            Due.refusal("add(" + number + ", 1)", IndexOutOfBoundsException.class, () -> x.add(number, 1));
        }
        for (int amount : new int[] {0, -1, 100001, Integer.MIN_VALUE, Integer.MAX_VALUE}) {
            Due.refusal("add(5, " + amount + ")", IndexOutOfBoundsException.class, () -> x.add(5, amount));
        }
        for (int what : new int[] {-1, 6, Integer.MIN_VALUE, Integer.MAX_VALUE}) {
            Due.refusal("mixture(" + what + ") of none", IllegalArgumentException.class, () -> x.mixture(what));
        }
        for (int what = 0; what <= 5; what++) {
            int w = what;
            Due.refusal("mixture(" + w + ") of none", IllegalStateException.class, () -> x.mixture(w));
        }
        for (int part = 0; part < 8; part++) {
            x.add(1 + part, 1);
        }
        Due.refusal("a ninth part", UnsupportedOperationException.class, () -> x.add(1, 1));
        Due.refusal("range goes before room", IndexOutOfBoundsException.class, () -> x.add(1, 0));
        Due.answer("still 8", 8, () -> x.mixture(4));
        for (int part = 0; part < 8; part++) {
            without.add(7, 1);
        }
        Due.refusal("unknown goes before room", IllegalArgumentException.class, () -> without.add(8, 1));
        Due.answer("all pairs", 28, () -> without.mixture(5));
        Due.refusal("mixture(6)", IllegalArgumentException.class, () -> without.mixture(6));
    }

    private static void clears() {
        HazardTables x = Due.with(TABLE);
        Due.done("clear() of none", x::clear);
        x.add(6, 1);
        x.step(1);
        Due.done("clear()", x::clear);
        Due.refusal("mixture(0)", IllegalStateException.class, () -> x.mixture(0));
        Due.answer("strict(0)", -1, () -> x.strict(0));
        Due.answer("the table stays", 2, () -> x.material(6, 0));
        x.add(6, 201);
        x.add(7, 1);
        x.add(6, 201);
        x.clear();
        Due.answer("no part is left", 0, () -> x.add(5, 1));
        is(x, 4, 0b10, 1, 2, 1, 0);
        Due.answer("steps begin anew", 2, () -> x.step(1));
    }
}
