import java.nio.charset.StandardCharsets;

/** What the tests share: answers and refusals that are due, texts and words as bytes. */
final class Due {
    interface Call {
        Object call();
    }

    interface Deed {
        void run();
    }

    private static int wrongAnswers = 0;

    private Due() {
    }

    static void answer(String call, Object want, Call made) {
        Object got;
        try {
            got = made.call();
        } catch (RuntimeException e) {
            got = "throws." + e.getClass().getSimpleName();
        }
        same(call, want, got);
    }

    static void refusal(String call, Class<? extends RuntimeException> want, Call made) {
        answer(call, "throws." + want.getSimpleName(), made);
    }

    static void done(String call, Deed deed) {
        answer(call, "done", () -> {
            deed.run();
            return "done";
        });
    }

    static void refusedDeed(String call, Class<? extends RuntimeException> want, Deed deed) {
        refusal(call, want, () -> {
            deed.run();
            return "done";
        });
    }

    static void same(String call, Object want, Object got) {
        if (!want.equals(got)) {
            wrongAnswers++;
            System.out.println(call + " answered " + got + ", due is " + want);
        }
    }

    static void end() {
        if (wrongAnswers != 0) {
            System.out.println(wrongAnswers + " answers are not as due");
            System.exit(1);
        }
    }

    /** The bytes as sign() and say() take them. */
    static long packed(String letters) {
        long bytes = 0;
        for (byte letter : letters.getBytes(StandardCharsets.ISO_8859_1)) {
            bytes = bytes << 8 | (letter & 255);
        }
        return bytes;
    }

    static void put(HazardTables x, String text) {
        for (int from = 0; from < text.length(); from += 8) {
            String piece = text.substring(from, Math.min(from + 8, text.length()));
            x.sign(packed(piece), piece.length());
        }
    }

    static int read(HazardTables x, String text) {
        put(x, text);
        return x.read();
    }

    static HazardTables with(String text) {
        HazardTables x = new HazardTables();
        read(x, text);
        return x;
    }

    static int say(HazardTables x, String word) {
        return x.say(packed(word), word.length());
    }

    /** The text up to the bar is right so far; the byte behind the bar is wrong. */
    static void wrong(String barred) {
        int bar = barred.indexOf('|');
        String text = barred.substring(0, bar) + barred.substring(bar + 1);
        HazardTables x = new HazardTables();
        refusal(text, IllegalStateException.class, () -> read(x, text));
        answer("place() of " + text, bar, x::place);
    }

    static HazardTables right(int materials, String text) {
        HazardTables x = new HazardTables();
        answer(text, materials, () -> read(x, text));
        answer("place() of " + text, -1, x::place);
        return x;
    }
}
