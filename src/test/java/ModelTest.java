import java.util.Random;

/** All promises: long runs of calls, the same on each run of the test, on an object and on a plain model. */
public final class ModelTest {
    private static final int RUNS = 1000;
    private static final int MOST_CALLS = 512;
    private static final int TEXTS = 4000;
    /** A text takes up to 52 calls, and an object is used for 512. */
    private static final int TEXTS_AN_OBJECT = 9;
    private static final int[] EDGES = {-1, 0, 1, 2, 3, 4, 5, 6, 7, 8, 9, 10, 200, 201, 999, 1000, 9999, 10000, 10001,
        -10000, -10001, 100000, 100001, Integer.MIN_VALUE, Integer.MAX_VALUE};
    private static final String SIGNS = "mzcrgx@,;\" 0123456789abchipq\t\u00e9";

    private final Random random;
    private HazardTables x;
    private Model model;
    private int calls;

    private ModelTest(long seed) {
        random = new Random(seed);
        x = new HazardTables();
        model = new Model();
    }

    public static void main(String[] args) {
        new ModelTest(1).compareTexts();
        for (int run = 0; run < RUNS; run++) {
            ModelTest test = new ModelTest(1000 + run);
            while (test.calls < MOST_CALLS) {
                test.compareCall();
            }
        }
        Due.end();
    }

    private void compareTexts() {
        for (int i = 0; i < TEXTS; i++) {
            String text = random.nextInt(4) == 0 ? text() : spoiled(text());
            if (i % TEXTS_AN_OBJECT == 0) {
                x = new HazardTables();
            }
            int place = Model.wrongPlace(text);
            Due.put(x, text);
            Object due = place == -1 ? "read" : "throws.IllegalStateException";
            Due.answer("read() of " + text, due, () -> {
                x.read();
                return "read";
            });
            Due.answer("place() of " + text, place, x::place);
        }
    }

    private int below(int bound) {
        return random.nextInt(bound);
    }

    private String blanks() {
        return below(12) == 0 ? " ".repeat(1 + below(2)) : "";
    }

    private String number(int digits) {
        return String.valueOf(below((int) Math.pow(10, 1 + below(digits))));
    }

    private String name() {
        StringBuilder name = new StringBuilder();
        int length = 1 + below(below(3) == 0 ? 10 : 4);
        for (int i = 0; i < length; i++) {
            name.append((char) ('a' + below(below(5) == 0 ? 26 : 3)));
        }
        return name.toString();
    }

    private String rising(String signs, int most) {
        StringBuilder row = new StringBuilder();
        int count = 0;
        for (int i = 0; i < signs.length(); i++) {
            if (count < most && below(signs.length()) < 3 || count == 0 && i == signs.length() - 1) {
                row.append(signs.charAt(i)).append(blanks());
                count++;
            }
        }
        return row.toString();
    }

    private String due() {
        StringBuilder due = new StringBuilder();
        due.append("r").append(blanks()).append(below(10)).append(blanks()).append("g").append(rising("abcdefgh", 4));
        for (int i = 0; i < 4; i++) {
            due.append(i == 0 ? "@" : ",").append(blanks()).append(number(4)).append(blanks());
        }
        return due.toString();
    }

    private String material() {
        StringBuilder row = new StringBuilder("m" + blanks() + (1 + below(below(4) == 0 ? 9999 : 14)) + blanks());
        int names = 1 + below(3);
        for (int i = 0; i < names; i++) {
            row.append('"').append(name()).append('"').append(blanks());
        }
        row.append("c").append(blanks()).append(1 + below(9)).append(blanks()).append(due());
        if (below(2) == 0) {
            row.append("x").append(rising("123456789", 3));
        }
        return row.append(";").append(blanks()).toString();
    }

    /** Mostly right; a number or z may be told twice. */
    private String text() {
        StringBuilder text = new StringBuilder();
        int rows = below(below(4) == 0 ? 14 : 5);
        for (int i = 0; i < rows; i++) {
            String row = below(6) == 0 ? "z" + blanks() + due() + ";" : material();
            if (text.length() + row.length() <= 400) {
                text.append(row);
            }
        }
        return text.toString();
    }

    private String spoiled(String text) {
        StringBuilder spoiled = new StringBuilder(text);
        int faults = 1 + below(2);
        for (int i = 0; i < faults && spoiled.length() > 0; i++) {
            int at = below(spoiled.length());
            switch (below(5)) {
                case 0 -> spoiled.deleteCharAt(at);
                case 1 -> spoiled.insert(at, SIGNS.charAt(below(SIGNS.length())));
                case 2 -> spoiled.setCharAt(at, SIGNS.charAt(below(SIGNS.length())));
                case 3 -> spoiled.insert(at, spoiled.charAt(at));
                default -> spoiled.setLength(at);
            }
        }
        spoiled.setLength(Math.min(400, spoiled.length()));
        return spoiled.toString();
    }

    private int edge() {
        return EDGES[below(EDGES.length)];
    }

    private int mostly(int usual) {
        return below(12) == 0 ? edge() : usual;
    }

    /** A call on both, while the object may still be called. */
    private void same(String call, Due.Call due, Due.Call made) {
        if (calls >= MOST_CALLS) {
            return;
        }
        calls++;
        Object want;
        try {
            want = due.call();
        } catch (RuntimeException e) {
            want = "throws." + e.getClass().getSimpleName();
        }
        Due.answer(call, want, made);
    }

    private void compareRead() {
        String text = below(4) == 0 ? spoiled(text()) : text();
        for (int from = 0; from < text.length(); from += 8) {
            String piece = text.substring(from, Math.min(from + 8, text.length()));
            same("sign", () -> model.sign(Due.packed(piece), piece.length()), () -> x.sign(Due.packed(piece), piece.length()));
        }
        same("read() of " + text, () -> model.read(), () -> x.read());
        same("place() of " + text, () -> model.place(), () -> x.place());
    }

    private void compareCall() {
        int number = mostly(below(14));
        int small = mostly(below(7));
        int px = mostly(below(2001) - 1000 >> below(6));
        int py = mostly(below(2001) - 1000 >> below(6));
        boolean flag = random.nextBoolean();
        switch (below(30)) {
            case 0 -> compareRead();
            case 1 -> {
                long bytes = random.nextLong();
                int n = below(10);
                if (below(9) == 0) {
                    same("sign", () -> model.sign(bytes, n), () -> x.sign(bytes, n));
                }
            }
            case 2, 3, 4 -> same("material(" + number + ", " + small + ")",
                    () -> model.material(number, small), () -> x.material(number, small));
            case 5, 6 -> {
                String name = name();
                String word = name.substring(0, Math.min(8, name.length()));
                int n = mostly(word.length());
                same("say(" + word + ", " + n + ")", () -> model.say(Due.packed(word), n), () -> x.say(Due.packed(word), n));
            }
            case 7, 8, 9 -> same("near(" + number + ")", () -> model.near(number), () -> x.near(number));
            case 10, 11, 12, 13 -> {
                int amount = mostly(1 + below(400));
                same("add(" + number + ", " + amount + ")", () -> model.add(number, amount), () -> x.add(number, amount));
            }
            case 14 -> {
                if (below(3) == 0) {
                    same("clear()", () -> {
                        model.clear();
                        return "done";
                    }, () -> {
                        x.clear();
                        return "done";
                    });
                }
            }
            case 15, 16, 17 -> same("mixture(" + small + ")", () -> model.mixture(small), () -> x.mixture(small));
            case 18 -> same("strict(" + small + ")", () -> model.strict(small), () -> x.strict(small));
            case 19, 20 -> same("building(" + px + ", " + py + ")", () -> model.building(px, py), () -> x.building(px, py));
            case 21, 22 -> {
                int wx = mostly(below(5) == 0 ? below(201) - 100 : below(5) - 2);
                int wy = mostly(below(5) == 0 ? below(201) - 100 : below(5) - 2);
                same("wind(" + wx + ", " + wy + ", " + flag + ")", () -> model.wind(wx, wy, flag), () -> x.wind(wx, wy, flag));
            }
            case 23 -> same("fresh(" + small + ")", () -> model.fresh(small), () -> x.fresh(small));
            case 24, 25 -> same("in(" + px + ", " + py + ")", () -> model.in(px, py), () -> x.in(px, py));
            case 26, 27 -> {
                for (int n = 1; n <= small && n <= 6; n++) {
                    int step = n;
                    same("step(" + step + ")", () -> model.step(step), () -> x.step(step));
                }
                same("step(" + small + ")", () -> model.step(small), () -> x.step(small));
            }
            case 28 -> same("mark(" + small + ", " + px + ")", () -> {
                model.mark(small, px);
                return "done";
            }, () -> {
                x.mark(small, px);
                return "done";
            });
            default -> same("over(" + small + ", " + px + ")", () -> model.over(small, px), () -> x.over(small, px));
        }
    }
}
