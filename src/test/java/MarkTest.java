/** Promises 17 and 18: mark and over. */
public final class MarkTest {
    public static void main(String[] args) {
        HazardTables x = new HazardTables();
        for (int kind = 0; kind < 5; kind++) {
            int k = kind;
            Due.done("mark(" + k + ")", () -> x.mark(k, 10 * k));
        }
        for (int kind = 0; kind < 5; kind++) {
            int k = kind;
            Due.answer("below", false, () -> x.over(k, 10 * k - 1));
            Due.answer("at the mark", true, () -> x.over(k, 10 * k));
            Due.answer("above", true, () -> x.over(k, 10 * k + 1));
            Due.answer("the lowest", false, () -> x.over(k, Integer.MIN_VALUE));
            Due.answer("the highest", true, () -> x.over(k, Integer.MAX_VALUE));
        }
        Due.done("the highest mark", () -> x.mark(3, Integer.MAX_VALUE));
        Due.answer("below it", false, () -> x.over(3, Integer.MAX_VALUE - 1));
        Due.answer("at it", true, () -> x.over(3, Integer.MAX_VALUE));
        for (int kind : new int[] {-1, 5, Integer.MIN_VALUE, Integer.MAX_VALUE}) {
            Due.refusedDeed("mark(" + kind + ", 5)", IllegalArgumentException.class, () -> x.mark(kind, 5));
            Due.refusedDeed("mark(" + kind + ", -1)", IllegalArgumentException.class, () -> x.mark(kind, -1));
            Due.refusal("over(" + kind + ", 5)", IllegalArgumentException.class, () -> x.over(kind, 5));
        }
        Due.refusedDeed("mark(1, -1)", IndexOutOfBoundsException.class, () -> x.mark(1, -1));
        Due.refusedDeed("mark(1, lowest)", IndexOutOfBoundsException.class, () -> x.mark(1, Integer.MIN_VALUE));
        Due.answer("a refused mark is none", false, () -> x.over(1, 9));
        x.clear();
        x.read();
        Due.answer("marks stay", true, () -> x.over(1, 10));
        Due.end();
    }
}
