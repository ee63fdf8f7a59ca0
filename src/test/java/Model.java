import java.util.ArrayList;
import java.util.HashSet;
import java.util.List;
import java.util.Map;
import java.util.Set;
import java.util.TreeMap;
import java.util.regex.Matcher;
import java.util.regex.Pattern;

/**
 * The document again, written for plainness with the Java library and by other ways than the class:
 * the grammar as a pattern, distances of words by recursion, angles by cosines.
 */
final class Model {
    private static final String MATERIAL_HEAD = "m *([1-9][0-9]{0,3})((?: *\"[a-z]{1,10}\"){1,3}) *c *([1-9])";
    private static final String DISTANCE = " *(0|[1-9][0-9]{0,3}) *";
    private static final String DUE = " *r *([0-9]) *g(" + rising("abcdefgh", 4) + ") *@" + DISTANCE + "," + DISTANCE + ","
            + DISTANCE + "," + DISTANCE;
    private static final String OTHERS = "(?:x(" + rising("123456789", 3) + "))?";
    private static final String ANY_ROW = " *(?:" + MATERIAL_HEAD + DUE + OTHERS + "|z" + DUE + ") *;";
    private static final Pattern ROW = Pattern.compile(ANY_ROW);
    private static final Pattern TEXT = Pattern.compile("(?:" + ANY_ROW + ")* *");
    private static final Pattern NUMBER = Pattern.compile("(?:^|;) *m *([1-9][0-9]{0,3})");
    private static final Pattern START_OF_MATERIAL = Pattern.compile("(?:^|;) *m");
    private static final Pattern START_OF_GENERAL = Pattern.compile("(?:^|;) *z");
    /** A class or strictness of several digits is wrong at its last one, at most the fourth. */
    private static final Pattern LONG_DIGIT = Pattern.compile("[cr] *([1-9][0-9]{1,3})");

    record Row(int number, int kind, int strictness, int gear, int[] distances, int others, List<String> names) {
    }

    record Part(int number, Row row, int amount) {
    }

    private final StringBuilder tape = new StringBuilder();
    private Map<Integer, Row> table = new TreeMap<>();
    private Row general;
    private int place = -1;
    private String word;
    private final List<Part> parts = new ArrayList<>();
    private int nextStep = 1;
    private final List<int[]> buildings = new ArrayList<>();
    private List<Integer> fresh = new ArrayList<>();
    private int windX = 1;
    private int windY = 0;
    private boolean day = true;
    private final int[] marks = {1000, 1000, 1000, 1000, 1000};

    /** All rising rows of one to most of the signs, blanks before each. */
    private static String rising(String signs, int most) {
        List<String> rows = new ArrayList<>();
        for (int bits = 1; bits < 1 << signs.length(); bits++) {
            if (Integer.bitCount(bits) <= most) {
                StringBuilder row = new StringBuilder();
                for (int i = 0; i < signs.length(); i++) {
                    if ((bits >> i & 1) == 1) {
                        row.append(" *").append(signs.charAt(i));
                    }
                }
                rows.add(row.toString());
            }
        }
        return String.join("|", rows);
    }

    private static boolean canBegin(String start) {
        Matcher matcher = TEXT.matcher(start);
        return matcher.matches() || matcher.hitEnd();
    }

    /** Where a text is wrong, or -1. */
    static int wrongPlace(String text) {
        int wrong = Integer.MAX_VALUE;
        if (!canBegin(text)) {
            int right = 0;
            while (canBegin(text.substring(0, right + 1))) {
                right++;
            }
            wrong = right;
            Matcher digits = LONG_DIGIT.matcher(text);
            while (digits.find()) {
                if (digits.start(1) + 1 == right) {
                    wrong = digits.end(1) - 1;
                }
            }
        } else if (!TEXT.matcher(text).matches()) {
            wrong = text.length();
        }
        wrong = Math.min(wrong, secondTelling(text));
        wrong = Math.min(wrong, endOf(START_OF_MATERIAL, text, 13));
        wrong = Math.min(wrong, endOf(START_OF_GENERAL, text, 2));
        return wrong == Integer.MAX_VALUE ? -1 : wrong;
    }

    private static int secondTelling(String text) {
        Set<String> told = new HashSet<>();
        Matcher number = NUMBER.matcher(text);
        while (number.find()) {
            if (!told.add(number.group(1))) {
                return number.end(1) - 1;
            }
        }
        return Integer.MAX_VALUE;
    }

    private static int endOf(Pattern pattern, String text, int times) {
        Matcher matcher = pattern.matcher(text);
        for (int i = 0; i < times; i++) {
            if (!matcher.find()) {
                return Integer.MAX_VALUE;
            }
        }
        return matcher.end() - 1;
    }

    int sign(long bytes, int n) {
        range(n >= 1 && n <= 8);
        room(tape.length() + n <= 400);
        tape.append(letters(bytes, n));
        return tape.length();
    }

    private static String letters(long bytes, int n) {
        StringBuilder letters = new StringBuilder();
        for (int i = 0; i < n; i++) {
            letters.insert(0, (char) (bytes >> 8 * i & 255));
        }
        return letters.toString();
    }

    int read() {
        String text = tape.toString();
        tape.setLength(0);
        place = wrongPlace(text);
        state(place == -1);
        table = new TreeMap<>();
        general = null;
        Matcher row = ROW.matcher(text);
        while (row.find()) {
            keep(row);
        }
        clear();
        word = null;
        return table.size();
    }

    private void keep(Matcher row) {
        if (row.group(1) == null) {
            general = new Row(0, 0, number(row, 11), bits(row.group(12), 'a'), distances(row, 13), 0, List.of());
            return;
        }
        int number = number(row, 1);
        List<String> names = new ArrayList<>();
        Matcher name = Pattern.compile("[a-z]+").matcher(row.group(2));
        while (name.find()) {
            names.add(name.group());
        }
        String others = row.group(10) == null ? "" : row.group(10);
        table.put(number, new Row(number, number(row, 3), number(row, 4), bits(row.group(5), 'a'), distances(row, 6),
                bits(others, '0'), names));
    }

    private static int number(Matcher row, int group) {
        return Integer.parseInt(row.group(group));
    }

    private static int[] distances(Matcher row, int group) {
        return new int[] {number(row, group), number(row, group + 1), number(row, group + 2), number(row, group + 3)};
    }

    private static int bits(String signs, char zero) {
        return signs.chars().filter(sign -> sign != ' ').map(sign -> 1 << sign - zero).sum();
    }

    int place() {
        return place;
    }

    int material(int number, int what) {
        Row row = number == 0 ? general : table.get(number);
        known(row != null && what >= 0 && what <= 8);
        return switch (what) {
            case 0 -> row.kind();
            case 1 -> row.strictness();
            case 2 -> row.gear();
            case 7 -> row.others();
            case 8 -> row.names().size();
            default -> row.distances()[what - 3];
        };
    }

    int say(long letters, int n) {
        range(n >= 1 && n <= 8 && letters(letters, n).matches("[a-z]*"));
        state(!table.isEmpty());
        word = letters(letters, n);
        return near(0);
    }

    int near(int i) {
        range(i >= 0);
        if (word == null || i >= table.size()) {
            return -1;
        }
        List<int[]> order = new ArrayList<>();
        for (Row row : table.values()) {
            order.add(new int[] {row.names().stream().mapToInt(name -> distance(word, name)).min().getAsInt(), row.number()});
        }
        order.sort((a, b) -> a[0] != b[0] ? a[0] - b[0] : a[1] - b[1]);
        return order.get(i)[1];
    }

    static int distance(String one, String other) {
        return distance(one, other, new int[one.length() + 1][other.length() + 1]);
    }

    private static int distance(String one, String other, int[][] known) {
        if (one.isEmpty() || other.isEmpty()) {
            return one.length() + other.length();
        }
        if (known[one.length()][other.length()] == 0) {
            int changed = distance(one.substring(1), other.substring(1), known) + (one.charAt(0) == other.charAt(0) ? 0 : 1);
            int shorter = Math.min(distance(one.substring(1), other, known), distance(one, other.substring(1), known));
            known[one.length()][other.length()] = 1 + Math.min(changed, shorter + 1);
        }
        return known[one.length()][other.length()] - 1;
    }

    int add(int number, int amount) {
        Row row = table.getOrDefault(number, general);
        known(row != null);
        range(number >= 1 && number <= 9999 && amount >= 1 && amount <= 100000);
        room(parts.size() < 8);
        Part part = new Part(number, row, amount);
        int contradicted = (int) parts.stream().filter(other -> contradict(part, other)).count();
        parts.add(part);
        return contradicted;
    }

    private static boolean contradict(Part one, Part other) {
        return (one.row().others() & 1 << other.row().kind()) != 0 || (other.row().others() & 1 << one.row().kind()) != 0;
    }

    void clear() {
        parts.clear();
        nextStep = 1;
    }

    int mixture(int what) {
        known(what >= 0 && what <= 5);
        state(!parts.isEmpty());
        return switch (what) {
            case 0 -> strictness();
            case 1 -> parts.stream().mapToInt(part -> part.row().gear()).reduce(0, (a, b) -> a | b);
            case 2 -> distance(true);
            case 3 -> distance(false);
            case 4 -> parts.size();
            default -> pairs();
        };
    }

    private int strictness() {
        return parts.stream().mapToInt(part -> part.row().strictness()).max().orElse(0);
    }

    private int distance(boolean byDay) {
        return parts.stream().mapToInt(part -> part.row().distances()[part.amount() > 200 ? byDay ? 2 : 3 : byDay ? 0 : 1])
                .max().orElse(-1);
    }

    private int pairs() {
        int pairs = 0;
        for (int i = 0; i < parts.size(); i++) {
            for (int j = i + 1; j < parts.size(); j++) {
                pairs += contradict(parts.get(i), parts.get(j)) ? 1 : 0;
            }
        }
        return pairs;
    }

    int strict(int i) {
        range(i >= 0);
        List<Part> strictest = parts.stream().filter(part -> part.row().strictness() == strictness()).toList();
        return i < strictest.size() ? strictest.get(i).number() : -1;
    }

    int building(int x, int y) {
        point(x, y);
        room(buildings.size() < 40);
        buildings.add(new int[] {x, y});
        return buildings.size() - 1;
    }

    int wind(int x, int y, boolean byDay) {
        range(x >= -100 && x <= 100 && y >= -100 && y <= 100 && (x != 0 || y != 0));
        Set<Integer> before = reached();
        windX = x;
        windY = y;
        day = byDay;
        fresh = new ArrayList<>(reached());
        fresh.removeAll(before);
        fresh.sort(null);
        return fresh.size();
    }

    private Set<Integer> reached() {
        Set<Integer> reached = new HashSet<>();
        for (int i = 0; i < buildings.size(); i++) {
            if (!parts.isEmpty() && isReached(buildings.get(i)[0], buildings.get(i)[1])) {
                reached.add(i);
            }
        }
        return reached;
    }

    private boolean isReached(long x, long y) {
        long far = distance(day);
        if (x * x + y * y > far * far) {
            return false;
        }
        long dot = x * windX + y * windY;
        return x == 0 && y == 0 || dot > 0 && 2 * dot * dot >= (x * x + y * y) * (windX * windX + windY * windY);
    }

    int fresh(int i) {
        range(i >= 0);
        return i < fresh.size() ? fresh.get(i) : -1;
    }

    boolean in(int x, int y) {
        point(x, y);
        state(!parts.isEmpty());
        return isReached(x, y);
    }

    int step(int n) {
        range(n >= 1 && n <= 6);
        state(!parts.isEmpty() && n == nextStep);
        nextStep = n == (strictness() < 5 ? 3 : 6) ? 1 : n + 1;
        return nextStep;
    }

    void mark(int kind, int v) {
        known(kind >= 0 && kind <= 4);
        range(v >= 0);
        marks[kind] = v;
    }

    boolean over(int kind, int v) {
        known(kind >= 0 && kind <= 4);
        return v >= marks[kind];
    }

    private static void point(int x, int y) {
        range(x >= -10000 && x <= 10000 && y >= -10000 && y <= 10000);
    }

    private static void known(boolean so) {
        if (!so) {
            throw new IllegalArgumentException();
        }
    }

    private static void range(boolean so) {
        if (!so) {
            throw new IndexOutOfBoundsException();
        }
    }

    private static void state(boolean so) {
        if (!so) {
            throw new IllegalStateException();
        }
    }

    private static void room(boolean so) {
        if (!so) {
            throw new UnsupportedOperationException();
        }
    }
}
