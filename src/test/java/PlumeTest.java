/** Promises 12 to 15: building, wind, fresh and in. */
public final class PlumeTest {
    private static final String TABLE = "m1\"a\"c1r2ga@100,200,300,400;m2\"b\"c1r1ga@0,0,9999,9999;";

    public static void main(String[] args) {
        buildings();
        turns();
        mixtureAsItIsNow();
        refusals();
        angles();
        reach();
        Due.end();
    }

    private static void freshOnes(HazardTables x, int... numbers) {
        for (int i = 0; i < numbers.length; i++) {
            int at = i;
            Due.answer("fresh(" + at + ")", numbers[at], () -> x.fresh(at));
        }
        Due.answer("fresh(" + numbers.length + ")", -1, () -> x.fresh(numbers.length));
        Due.answer("fresh(the highest)", -1, () -> x.fresh(Integer.MAX_VALUE));
    }

    private static void buildings() {
        HazardTables x = new HazardTables();
        for (int number = 0; number < 40; number++) {
            int n = number;
            Due.answer("building", n, () -> x.building(n % 2 == 0 ? 10000 : -10000, n % 3 == 0 ? -10000 : 10000));
        }
        Due.refusal("a 41st building", UnsupportedOperationException.class, () -> x.building(0, 0));
        Due.refusal("the point goes before room", IndexOutOfBoundsException.class, () -> x.building(10001, 0));
        HazardTables all = Due.with("m1\"a\"c1r2ga@100,200,300,400;");
        for (int number = 0; number < 40; number++) {
            all.building(0, 40 - number);
        }
        all.add(1, 1);
        Due.answer("all come into the plume", 40, () -> all.wind(0, 1, true));
        Due.answer("fresh(39)", 39, () -> all.fresh(39));
        Due.answer("fresh(40)", -1, () -> all.fresh(40));
    }

    private static void turns() {
        HazardTables x = Due.with(TABLE);
        int[][] points = {{0, 0}, {70, 70}, {70, 71}, {100, 0}, {101, 0}, {-1, 0}, {0, 50}};
        for (int[] point : points) {
            x.building(point[0], point[1]);
        }
        Due.answer("wind of an empty mixture", 0, () -> x.wind(1, 0, true));
        freshOnes(x);
        x.add(1, 5);
        Due.answer("the same wind", 0, () -> x.wind(1, 0, true));
        freshOnes(x);
        Due.answer("turned left", 2, () -> x.wind(1, 1, true));
        freshOnes(x, 2, 6);
        Due.answer("night", 1, () -> x.wind(1, 1, false));
        freshOnes(x, 4);
        Due.answer("further left", 0, () -> x.wind(0, 1, false));
        freshOnes(x);
        Due.answer("away", 1, () -> x.wind(-1, 0, false));
        freshOnes(x, 5);
        Due.answer("back by night", 4, () -> x.wind(2, 1, false));
        freshOnes(x, 1, 2, 3, 4);
    }

    private static void mixtureAsItIsNow() {
        HazardTables x = Due.with(TABLE);
        x.building(150, 0);
        x.building(0, 150);
        x.building(0, 90);
        x.add(1, 5);
        Due.answer("night makes it longer", 1, () -> x.wind(1, 0, false));
        freshOnes(x, 0);
        Due.answer("day again", 0, () -> x.wind(1, 0, true));
        freshOnes(x);
        Due.answer("turned by day", 1, () -> x.wind(0, 1, true));
        freshOnes(x, 2);
        x.add(1, 300);
        Due.answer("a larger mixture counts for both winds", 0, () -> x.wind(0, 1, false));
        freshOnes(x);
        Due.answer("back", 1, () -> x.wind(100, -1, true));
        freshOnes(x, 0);
        x.building(149, 0);
        x.clear();
        freshOnes(x, 0);
        Due.answer("none by an empty mixture", 0, () -> x.wind(0, 1, true));
        freshOnes(x);
        x.add(1, 300);
        Due.answer("the empty mixture's wind counts", 0, () -> x.wind(0, 2, true));
        Due.answer("a wrong wind", true, () -> refused(x));
        Due.answer("two of them", 2, () -> x.wind(1, 0, true));
        freshOnes(x, 0, 3);
        Due.answer("a wrong wind", true, () -> refused(x));
        freshOnes(x, 0, 3);
        Due.read(x, "");
        freshOnes(x, 0, 3);
    }

    private static boolean refused(HazardTables x) {
        try {
            x.wind(101, 5, false);
            return false;
        } catch (IndexOutOfBoundsException e) {
            return true;
        }
    }

    private static void refusals() {
        HazardTables x = Due.with(TABLE);
        int[] far = {10001, -10001, Integer.MIN_VALUE, Integer.MAX_VALUE};
        for (int v : far) {
            Due.refusal("building(" + v + ", 0)", IndexOutOfBoundsException.class, () -> x.building(v, 0));
            Due.refusal("building(0, " + v + ")", IndexOutOfBoundsException.class, () -> x.building(0, v));
            Due.refusal("in(" + v + ", 0) of none", IndexOutOfBoundsException.class, () -> x.in(v, 0));
            Due.refusal("in(0, " + v + ") of none", IndexOutOfBoundsException.class, () -> x.in(0, v));
        }
        Due.answer("no building came", 0, () -> x.building(1, 1));
        Due.refusal("in(10000, -10000) of none", IllegalStateException.class, () -> x.in(10000, -10000));
        for (int v : new int[] {101, -101, Integer.MIN_VALUE, Integer.MAX_VALUE}) {
            Due.refusal("wind(" + v + ", 0)", IndexOutOfBoundsException.class, () -> x.wind(v, 0, true));
            Due.refusal("wind(0, " + v + ")", IndexOutOfBoundsException.class, () -> x.wind(0, v, true));
        }
        Due.refusal("wind(0, 0)", IndexOutOfBoundsException.class, () -> x.wind(0, 0, true));
        Due.refusal("fresh(-1)", IndexOutOfBoundsException.class, () -> x.fresh(-1));
        Due.refusal("fresh(the lowest)", IndexOutOfBoundsException.class, () -> x.fresh(Integer.MIN_VALUE));
        x.add(1, 1);
        x.wind(100, 100, true);
        x.wind(-100, 0, true);
        Due.refusal("wind(0, 0)", IndexOutOfBoundsException.class, () -> x.wind(0, 0, false));
        Due.answer("a refused wind is none", true, () -> x.in(-100, 0));
        Due.answer("a refused night is none", false, () -> x.in(-101, 0));
    }

    /** The angle by its cosine, exactly: dot >= 0 and 2 dot dot >= (length of both) squared. */
    private static boolean isWithin45(long wx, long wy, long x, long y) {
        long dot = wx * x + wy * y;
        return dot >= 0 && 2 * dot * dot >= (wx * wx + wy * wy) * (x * x + y * y);
    }

    private static void angles() {
        int[][] winds = {{1, 0}, {0, 1}, {-1, 0}, {0, -1}, {1, 1}, {-1, 1}, {3, 4}, {-100, 99}, {100, 99}, {7, -24}, {-1, -2}};
        HazardTables x = Due.with(TABLE);
        x.add(2, 100000);
        for (int[] wind : winds) {
            x.wind(wind[0], wind[1], true);
            for (int px = -12; px <= 12; px++) {
                for (int py = -12; py <= 12; py++) {
                    int qx = px * 550;
                    int qy = py * 551;
                    Due.same("in(" + qx + ", " + qy + ") by " + wind[0] + ", " + wind[1],
                            qx * qx + qy * qy <= 9999 * 9999 && isWithin45(wind[0], wind[1], qx, qy), x.in(qx, qy));
                }
            }
            // The plume's very edges, and the points beside them.
            int leftX = 40 * (wind[0] - wind[1]);
            int leftY = 40 * (wind[1] + wind[0]);
            for (int side = -1; side <= 1; side++) {
                int edgeX = leftX;
                int edgeY = leftY + side;
                boolean within = isWithin45(wind[0], wind[1], edgeX, edgeY);
                boolean reached = edgeX * edgeX + edgeY * edgeY <= 9999 * 9999;
                Due.same("the edge", within && reached, x.in(edgeX, edgeY));
            }
        }
    }

    private static void reach() {
        HazardTables x = Due.with(TABLE);
        x.add(2, 1);
        Due.answer("the place itself, with distance 0", true, () -> x.in(0, 0));
        Due.answer("a metre off it", false, () -> x.in(1, 0));
        x.add(2, 201);
        Due.answer("9,999 metres", true, () -> x.in(9999, 0));
        Due.answer("10,000 metres", false, () -> x.in(10000, 0));
        Due.answer("the corner", false, () -> x.in(10000, 10000));
        x.clear();
        x.add(1, 1);
        x.wind(-1, 0, false);
        Due.answer("in(-141, 141)", true, () -> x.in(-141, 141));
        Due.answer("in(-142, 142)", false, () -> x.in(-142, 142));
        Due.answer("in(-120, 160)", false, () -> x.in(-120, 160));
        Due.answer("in(-160, 120)", true, () -> x.in(-160, 120));
        Due.answer("in(-161, 120)", false, () -> x.in(-161, 120));
        Due.answer("the place itself", true, () -> x.in(0, 0));
    }
}
