import java.util.LinkedHashMap;
import java.util.Map;

/**
 * What can be seen of an object, one thing at a time. A look makes calls that may change the object, or
 * may be refused, so each is taken at an object of its own.
 */
final class Look {
    interface Taker {
        void take(Look look, HazardTables x);
    }

    private static final int[] NUMBERS = {1, 2, 12, 0, 9999};
    private static final int[] VALUES = {-1, 0, 1, 6, 7, 8, 999, 1000, 1001, Integer.MAX_VALUE};
    private static final int[][] POINTS = {{0, 0}, {1, 0}, {0, 1}, {-1, 0}, {0, -1}, {100, 0}, {101, 0}, {0, 100}, {0, 101},
        {0, 200}, {0, 201}, {0, 300}, {0, 301}, {0, 400}, {0, 401}, {-70, 70}, {70, 70}};

    private final StringBuilder seen = new StringBuilder();

    private Look() {
    }

    static Map<String, Taker> all() {
        Map<String, Taker> all = new LinkedHashMap<>();
        all.put("place", (look, x) -> look.see("place", x::place));
        all.put("table", Look::seeTable);
        all.put("word", Look::seeWord);
        all.put("mixture", Look::seeMixture);
        all.put("fresh", Look::seeFresh);
        all.put("plume", Look::seePlume);
        all.put("marks", Look::seeMarks);
        all.put("buildings", Look::seeBuildings);
        all.put("tape", Look::seeTape);
        for (int n = 1; n <= 6; n++) {
            int step = n;
            all.put("step" + n, (look, x) -> look.seeStep(x, step));
        }
        return all;
    }

    /** A wrong text changes place(). */
    static Map<String, Taker> allButPlace() {
        Map<String, Taker> all = all();
        all.remove("place");
        return all;
    }

    static String at(HazardTables x, Taker taker) {
        Look look = new Look();
        taker.take(look, x);
        return look.seen.toString();
    }

    private void see(String what, Due.Call call) {
        Object answer;
        try {
            answer = call.call();
        } catch (RuntimeException e) {
            answer = e.getClass().getSimpleName();
        }
        seen.append(what).append('=').append(answer).append(' ');
    }

    private void seeTable(HazardTables x) {
        for (int number : NUMBERS) {
            for (int what = 0; what <= 8; what++) {
                int w = what;
                see("material(" + number + "," + w + ")", () -> x.material(number, w));
            }
        }
    }

    private void seeWord(HazardTables x) {
        for (int i = 0; i <= 12; i++) {
            int at = i;
            see("near(" + at + ")", () -> x.near(at));
        }
    }

    private void seeMixture(HazardTables x) {
        for (int i = 0; i <= 8; i++) {
            int at = i;
            see("strict(" + at + ")", () -> x.strict(at));
        }
        for (int what = 0; what <= 5; what++) {
            int w = what;
            see("mixture(" + w + ")", () -> x.mixture(w));
        }
    }

    private void seeFresh(HazardTables x) {
        for (int i = 0; i <= 40; i++) {
            int at = i;
            see("fresh(" + at + ")", () -> x.fresh(at));
        }
    }

    /** The wind, the next step and the buildings of an empty mixture show by its first part alone. */
    private void addAFirstPart(HazardTables x) {
        if (x.strict(0) != -1) {
            return;
        }
        try {
            x.add(1, 1);
        } catch (IllegalArgumentException e) {
            // Without a row for it there is no part, and the look's own calls show that.
        }
    }

    private void seePlume(HazardTables x) {
        addAFirstPart(x);
        for (int[] point : POINTS) {
            see("in(" + point[0] + "," + point[1] + ")", () -> x.in(point[0], point[1]));
        }
    }

    private void seeMarks(HazardTables x) {
        for (int kind = 0; kind <= 4; kind++) {
            for (int value : VALUES) {
                int k = kind;
                see("over(" + k + "," + value + ")", () -> x.over(k, value));
            }
        }
    }

    private void seeStep(HazardTables x, int n) {
        addAFirstPart(x);
        see("step(" + n + ")", () -> x.step(n));
    }

    /** Which buildings there are shows when the wind turns round and back; how many, by one more. */
    private void seeBuildings(HazardTables x) {
        addAFirstPart(x);
        int[][] winds = {{-1, -1}, {0, 1}, {1, 0}};
        for (int[] wind : winds) {
            see("wind(" + wind[0] + "," + wind[1] + ")", () -> x.wind(wind[0], wind[1], true));
            seeFresh(x);
        }
        see("building", () -> x.building(0, 7));
    }

    private void seeTape(HazardTables x) {
        see("sign", () -> x.sign(';', 1));
        see("read", () -> x.read());
        see("place", () -> x.place());
        see("material(77,3)", () -> x.material(77, 3));
    }
}
