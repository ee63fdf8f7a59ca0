/** The states that calls are tested in; but for the new object, there is the start of a text on the tape. */
enum State {
    /** As it was made. */
    NEW,
    /** All is under way: a word, a mixture with step 2 next, buildings, a fresh one, marks; a wrong text before. */
    USED,
    /** The same, with an empty mixture. */
    CLEARED,
    /** The same, behind a text with a general row alone, so without a word; a mixture again. */
    GENERAL_ONLY,
    /** The same as USED, with room for one byte. */
    LONG_TAPE,
    /** The same as USED, without a general row, and with no room for a part. */
    EIGHT_PARTS,
    /** The same as USED, with no room for a building. */
    FORTY_BUILDINGS,
    /** No general row; as much of everything as there may be. */
    FULL;

    static final String FIRST = "m1\"ab\"\"c\"c3r4gab@100,200,300,400x13;";
    static final String SECOND = "m2\"b\"c1r6gc@10,20,30,40;";
    static final String GENERAL = "zr5gh@100,200,300,400;";
    static final String ON_THE_TAPE = "m77\"q\"c3r4ga@9,2,3,4";

    HazardTables made() {
        HazardTables x = madeWithoutTape();
        if (this == FULL || this == LONG_TAPE) {
            Due.put(x, " ".repeat(399 - ON_THE_TAPE.length()) + ON_THE_TAPE);
        } else if (this != NEW) {
            Due.put(x, ON_THE_TAPE);
        }
        return x;
    }

    HazardTables madeWithoutTape() {
        HazardTables x = new HazardTables();
        if (this == FULL) {
            fill(x);
        } else if (this != NEW) {
            use(x, this == EIGHT_PARTS ? FIRST + SECOND : FIRST + SECOND + GENERAL);
        }
        if (this == CLEARED) {
            x.clear();
        } else if (this == GENERAL_ONLY) {
            Due.read(x, GENERAL);
            x.add(3, 201);
            x.step(1);
        } else if (this == EIGHT_PARTS) {
            for (int part = 3; part <= 8; part++) {
                x.add(1, part);
            }
        } else if (this == FORTY_BUILDINGS) {
            for (int number = 3; number < 40; number++) {
                x.building(number, 5);
            }
        }
        return x;
    }

    private static void use(HazardTables x, String text) {
        Due.read(x, text);
        Due.refusal("a wrong text before", IllegalStateException.class, () -> Due.read(x, "m1q"));
        Due.say(x, "b");
        x.add(1, 200);
        x.add(2, 201);
        x.step(1);
        x.building(0, 150);
        x.building(250, 0);
        x.building(0, 0);
        x.wind(0, 1, false);
        x.mark(2, 7);
    }

    private static void fill(HazardTables x) {
        StringBuilder twelve = new StringBuilder();
        for (int number = 1; number <= 12; number++) {
            twelve.append("m").append(number).append("\"ab\"c3r5ga@100,200,300,").append(number).append("x3;");
        }
        Due.read(x, twelve.toString());
        Due.say(x, "abcdefgh");
        for (int part = 1; part <= 8; part++) {
            x.add(part, 100000);
        }
        for (int n = 1; n <= 5; n++) {
            x.step(n);
        }
        for (int number = 0; number < 40; number++) {
            x.building(0, 300);
        }
        x.wind(0, 100, true);
        x.mark(0, Integer.MAX_VALUE);
        x.mark(4, 0);
    }
}
