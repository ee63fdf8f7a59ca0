/** Promise 5: material. */
public final class MaterialTest {
    public static void main(String[] args) {
        HazardTables x = Due.with("m1203\"petrol\" \"gasoline\"c3r4gab@50,80,300,500x5;"
                + "z r6 g c @ 30 , 40 , 100 , 200 ;"
                + "m9999\"acid\"\"sulphur\"\"oil\"c8r0gbdeh@0,1,9999,51x359;m1\"q\"c9r9gh@4,3,2,1;");
        row(x, 1203, 3, 4, 0b11, 50, 80, 300, 500, 1 << 5, 2);
        row(x, 9999, 8, 0, 0b10011010, 0, 1, 9999, 51, 1 << 3 | 1 << 5 | 1 << 9, 3);
        row(x, 1, 9, 9, 0b10000000, 4, 3, 2, 1, 0, 1);
        row(x, 0, 0, 6, 0b100, 30, 40, 100, 200, 0, 0);
        for (int number : new int[] {2, 1202, -1, 10000, Integer.MIN_VALUE, Integer.MAX_VALUE}) {
            Due.refusal("material(" + number + ", 0)", IllegalArgumentException.class, () -> x.material(number, 0));
        }
        for (int what : new int[] {-1, 9, Integer.MIN_VALUE, Integer.MAX_VALUE}) {
            Due.refusal("material(1203, " + what + ")", IllegalArgumentException.class, () -> x.material(1203, what));
            Due.refusal("material(0, " + what + ")", IllegalArgumentException.class, () -> x.material(0, what));
        }
        HazardTables without = Due.with("m1\"q\"c9r9gh@4,3,2,1;");
        Due.refusal("no general row", IllegalArgumentException.class, () -> without.material(0, 1));
        Due.end();
    }

    private static void row(HazardTables x, int number, int... cells) {
        for (int what = 0; what < cells.length; what++) {
            int w = what;
            Due.answer("material(" + number + ", " + w + ")", cells[w], () -> x.material(number, w));
        }
    }
}
