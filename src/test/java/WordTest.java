/** Promises 6 and 7: say and near. */
public final class WordTest {
    private static final String DUE = "c1r1ga@1,1,1,1;";

    public static void main(String[] args) {
        nearest();
        distances();
        everyName();
        refusals();
        latestWord();
        Due.end();
    }

    private static void order(HazardTables x, String word, int... numbers) {
        Due.answer("say " + word, numbers[0], () -> Due.say(x, word));
        for (int i = 0; i < numbers.length; i++) {
            int at = i;
            Due.answer("near(" + at + ") to " + word, numbers[at], () -> x.near(at));
        }
        Due.answer("near(" + numbers.length + ") to " + word, -1, () -> x.near(numbers.length));
        Due.answer("near(the highest) to " + word, -1, () -> x.near(Integer.MAX_VALUE));
    }

    private static void nearest() {
        HazardTables x = Due.with("m1203\"petrol\"\"gasoline\"" + DUE + "m1017\"chlorine\"" + DUE
                + "m1830\"acid\"\"sulphur\"" + DUE + "m7\"petrol\"" + DUE);
        order(x, "petrol", 7, 1203, 1830, 1017);
        order(x, "petrel", 7, 1203, 1830, 1017);
        order(x, "chlor", 1017, 7, 1203, 1830);
        order(x, "gasolin", 1203, 1017, 1830, 7);
        order(x, "z", 1830, 7, 1203, 1017);
        order(x, "sulphurs", 1830, 7, 1017, 1203);
    }

    /** Every distance is told by a name of x alone, whose length is the distance of 'q'. */
    private static void distances() {
        isFrom("abc", "abc", 0);
        isFrom("abc", "abd", 1);
        isFrom("abc", "ab", 1);
        isFrom("abc", "abcd", 1);
        isFrom("abc", "bc", 1);
        isFrom("abc", "zabc", 1);
        isFrom("ab", "ba", 2);
        isFrom("kitten", "sitting", 3);
        isFrom("abcdefgh", "bcdefgha", 2);
        isFrom("a", "bcdefghijk", 10);
        isFrom("k", "bcdefghijk", 9);
        isFrom("abcdefgh", "z", 8);
    }

    private static void isFrom(String word, String name, int distance) {
        // A name of d letters that are not in the word is as far as the longer one of both.
        for (int d = word.length(); d <= 10; d++) {
            String rival = "x".repeat(d);
            HazardTables lower = Due.with("m1\"" + rival + "\"" + DUE + "m2\"" + name + "\"" + DUE);
            HazardTables higher = Due.with("m2\"" + rival + "\"" + DUE + "m1\"" + name + "\"" + DUE);
            Due.answer(word + " from " + name + " against " + d, distance < d ? 2 : 1, () -> Due.say(lower, word));
            Due.answer(word + " from " + name + " against " + d, distance <= d ? 1 : 2, () -> Due.say(higher, word));
        }
    }

    /** Each of three names of each of twelve materials is known, letter by letter. */
    private static void everyName() {
        StringBuilder text = new StringBuilder();
        String[] names = new String[36];
        for (int i = 0; i < names.length; i++) {
            char letter = (char) ('a' + i % 12);
            names[i] = letter + "zyx".substring(i / 12, i / 12 + 1);
        }
        for (int row = 0; row < 12; row++) {
            text.append("m").append(90 - row);
            for (int name = 0; name < 3; name++) {
                text.append('"').append(names[3 * row + name]).append('"');
            }
            text.append("c1r1ga@1,1,1,1;");
        }
        HazardTables x = Due.with(text.toString());
        for (int i = 0; i < names.length; i++) {
            String word = names[i];
            Due.answer("say " + word, 90 - i / 3, () -> Due.say(x, word));
        }
        String ten = "abcdefghij";
        HazardTables longest = Due.with("m1\"" + ten + "\"\"klmnopqrst\"\"b" + ten.substring(1) + "\"" + DUE
                + "m2\"" + ten.substring(0, 9) + "z\"" + DUE);
        order(longest, "cdefghij", 1, 2);
        order(longest, "efghiz", 2, 1);
        order(longest, "bbcdefgh", 1, 2);
    }

    private static void refusals() {
        HazardTables x = Due.with("m5\"a\"" + DUE);
        for (int n : new int[] {0, -1, 9, Integer.MIN_VALUE, Integer.MAX_VALUE}) {
            Due.refusal("say(97, " + n + ")", IndexOutOfBoundsException.class, () -> x.say(97, n));
        }
        for (String word : new String[] {"A", "`", "{", "a b", "1", "\u0000a", "a\u00e1", "abcdefg ", " bcdefgh"}) {
            Due.refusal("say " + word, IndexOutOfBoundsException.class, () -> Due.say(x, word));
        }
        Due.answer("no word yet", -1, () -> x.near(0));
        Due.answer("bytes above the lowest n do not count", 5, () -> x.say(Due.packed("  1A zza"), 3));
        for (int i : new int[] {-1, Integer.MIN_VALUE}) {
            Due.refusal("near(" + i + ")", IndexOutOfBoundsException.class, () -> x.near(i));
        }
        HazardTables empty = Due.with("zr1ga@1,1,1,1;");
        Due.refusal("a general row has no names", IllegalStateException.class, () -> Due.say(empty, "a"));
        Due.refusal("a letter goes before the table", IndexOutOfBoundsException.class, () -> Due.say(empty, "A"));
        Due.refusal("n goes before the table", IndexOutOfBoundsException.class, () -> empty.say(97, 9));
        Due.answer("without a word", -1, () -> empty.near(0));
        Due.refusal("near(-1) without a word", IndexOutOfBoundsException.class, () -> empty.near(-1));
    }

    private static void latestWord() {
        HazardTables x = Due.with("m5\"aa\"" + DUE + "m3\"bb\"" + DUE);
        Due.say(x, "aa");
        Due.refusal("no letters", IndexOutOfBoundsException.class, () -> Due.say(x, "BB"));
        Due.answer("a refused word is none", 5, () -> x.near(0));
        Due.say(x, "bb");
        Due.answer("the latest word", 3, () -> x.near(0));
        Due.refusal("a wrong text", IllegalStateException.class, () -> Due.read(x, "m"));
        Due.answer("the word stays", 5, () -> x.near(1));
        Due.read(x, "m5\"aa\"" + DUE + "m3\"bb\"" + DUE);
        Due.answer("behind another table", -1, () -> x.near(0));
        Due.say(x, "aa");
        x.clear();
        Due.answer("clear() is no other table", 5, () -> x.near(0));
    }
}
