/** Promise 16: step, and what promise 9 says of steps. */
public final class StepTest {
    private static final String TABLE = "m4\"a\"c1r4ga@1,1,1,1;m5\"a\"c1r5ga@1,1,1,1;";

    public static void main(String[] args) {
        three();
        six();
        threeThatBecomeSix();
        clearAndSteps();
        refusals();
        Due.end();
    }

    private static void goes(HazardTables x, int n, int next) {
        Due.answer("step(" + n + ")", next, () -> x.step(n));
    }

    private static void notNow(HazardTables x, int n) {
        Due.refusal("step(" + n + ")", IllegalStateException.class, () -> x.step(n));
    }

    private static void three() {
        HazardTables x = Due.with(TABLE);
        x.add(4, 1);
        for (int round = 0; round < 2; round++) {
            goes(x, 1, 2);
            notNow(x, 1);
            notNow(x, 3);
            goes(x, 2, 3);
            goes(x, 3, 1);
            notNow(x, 4);
        }
    }

    private static void six() {
        HazardTables x = Due.with(TABLE);
        x.add(5, 1);
        for (int round = 0; round < 2; round++) {
            for (int n = 1; n <= 6; n++) {
                goes(x, n, n == 6 ? 1 : n + 1);
            }
            notNow(x, 6);
        }
    }

    private static void threeThatBecomeSix() {
        HazardTables x = Due.with(TABLE);
        x.add(4, 1);
        goes(x, 1, 2);
        goes(x, 2, 3);
        x.add(5, 1);
        goes(x, 3, 4);
        goes(x, 4, 5);
        x.clear();
        x.add(4, 1);
        goes(x, 1, 2);
        goes(x, 2, 3);
        goes(x, 3, 1);
        x.add(5, 1);
        notNow(x, 4);
        goes(x, 1, 2);
    }

    private static void clearAndSteps() {
        HazardTables x = Due.with(TABLE);
        x.add(5, 1);
        goes(x, 1, 2);
        x.clear();
        notNow(x, 1);
        notNow(x, 2);
        x.add(5, 1);
        notNow(x, 2);
        goes(x, 1, 2);
    }

    private static void refusals() {
        HazardTables x = Due.with(TABLE);
        int[] none = {0, -1, 7, Integer.MIN_VALUE, Integer.MAX_VALUE};
        for (int n : none) {
            Due.refusal("step(" + n + ") of none", IndexOutOfBoundsException.class, () -> x.step(n));
        }
        for (int n = 1; n <= 6; n++) {
            notNow(x, n);
        }
        x.add(4, 1);
        for (int n : none) {
            Due.refusal("step(" + n + ")", IndexOutOfBoundsException.class, () -> x.step(n));
        }
        goes(x, 1, 2);
    }
}
