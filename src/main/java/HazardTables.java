/**
 * A table of dangerous materials that is read from a text, words that are said of it, a mixture of
 * its materials with a plume over buildings, the steps of cleaning, and marks for measured values.
 */
public final class HazardTables {

    private static final int MOST_BYTES_A_CALL = 8;
    private static final int HIGHEST_NUMBER = 9999;
    private static final int MOST_LITRES = 100000;
    private static final int FARTHEST = 10000;
    private static final int STRONGEST_WIND = 100;
    private static final int MOST_STEPS = 6;
    private static final int LAST_WHAT_OF_MIXTURE = 5;
    private static final int KINDS = 5;
    private static final int FIRST_MARK = 1000;
    private static final int NONE = -1;

    private final Reader reader;
    private final Speller speller;
    private final Mixture parts;
    private final Surroundings around;
    private final int[] marks;
    private Table table;
    private Table spare;

    public HazardTables() {
        reader = new Reader();
        speller = new Speller();
        parts = new Mixture();
        around = new Surroundings();
        marks = new int[KINDS];
        for (int kind = 0; kind < KINDS; kind++) {
            marks[kind] = FIRST_MARK;
        }
        table = new Table();
        spare = new Table();
    }

    public int sign(long bytes, int n) throws IndexOutOfBoundsException, UnsupportedOperationException {
        if (n < 1 || n > MOST_BYTES_A_CALL) {
            throw new IndexOutOfBoundsException("n is not 1 .. 8");
        }
        if (!reader.hasRoomFor(n)) {
            throw new UnsupportedOperationException("a text has at most 400 bytes");
        }
        return reader.append(bytes, n);
    }

    public int read() throws IllegalStateException {
        // A wrong text leaves the table as it was, so the text goes into the other one first.
        if (!reader.fill(spare)) {
            throw new IllegalStateException("the text is wrong");
        }
        Table before = table;
        table = spare;
        spare = before;
        parts.removeAll();
        speller.forget();
        return table.materials;
    }

    public int place() {
        return reader.wrongAt;
    }

    public int material(int number, int what) throws IllegalArgumentException {
        int row = number == 0 ? table.rowOfOthers() : table.rowOf(number);
        if (row == NONE) {
            throw new IllegalArgumentException("no such material");
        }
        if (what < 0 || what >= Table.COLUMNS) {
            throw new IllegalArgumentException("no such what");
        }
        return table.cell(row, what);
    }

    public int say(long letters, int n) throws IndexOutOfBoundsException, IllegalStateException {
        if (n < 1 || n > MOST_BYTES_A_CALL || !areLetters(letters, n)) {
            throw new IndexOutOfBoundsException("no word of 1 .. 8 letters a .. z");
        }
        if (table.materials == 0) {
            throw new IllegalStateException("the table has no materials");
        }
        speller.hear(letters, n);
        speller.rank(table);
        return speller.ranked(0);
    }

    public int near(int i) throws IndexOutOfBoundsException {
        if (i < 0) {
            throw new IndexOutOfBoundsException("i is below 0");
        }
        return speller.ranked(i);
    }

    public int add(int number, int amount)
            throws IllegalArgumentException, IndexOutOfBoundsException, UnsupportedOperationException {
        int row = table.rowOf(number);
        if (row == NONE) {
            row = table.rowOfOthers();
        }
        if (row == NONE) {
            throw new IllegalArgumentException("not in the table, and there is no general row");
        }
        if (isOutside(number, 1, HIGHEST_NUMBER) || isOutside(amount, 1, MOST_LITRES)) {
            throw new IndexOutOfBoundsException("the number or the amount is out of range");
        }
        if (parts.isFull()) {
            throw new UnsupportedOperationException("a mixture has at most 8 parts");
        }
        return parts.append(number, row, amount, table);
    }

    public void clear() {
        parts.removeAll();
    }

    public int mixture(int what) throws IllegalArgumentException, IllegalStateException {
        if (isOutside(what, 0, LAST_WHAT_OF_MIXTURE)) {
            throw new IllegalArgumentException("no such what");
        }
        if (parts.size == 0) {
            throw new IllegalStateException("the mixture is empty");
        }
        switch (what) {
            case 0:
                return parts.strictness(table);
            case 1:
                return parts.gear(table);
            case 2:
                return parts.distance(table, true);
            case 3:
                return parts.distance(table, false);
            case 4:
                return parts.size;
            default:
                return parts.contradictingPairs(table);
        }
    }

    public int strict(int i) throws IndexOutOfBoundsException {
        if (i < 0) {
            throw new IndexOutOfBoundsException("i is below 0");
        }
        return parts.strictest(i, table);
    }

    public int building(int x, int y) throws IndexOutOfBoundsException, UnsupportedOperationException {
        if (isNoPoint(x, y)) {
            throw new IndexOutOfBoundsException("the point is out of range");
        }
        if (around.isFull()) {
            throw new UnsupportedOperationException("there are at most 40 buildings");
        }
        return around.append(x, y);
    }

    public int wind(int x, int y, boolean day) throws IndexOutOfBoundsException {
        if (isOutside(x, -STRONGEST_WIND, STRONGEST_WIND) || isOutside(y, -STRONGEST_WIND, STRONGEST_WIND)) {
            throw new IndexOutOfBoundsException("the wind is out of range");
        }
        if (x == 0 && y == 0) {
            throw new IndexOutOfBoundsException("a wind blows some way");
        }
        int distanceBefore = parts.distance(table, around.day);
        int distanceNow = parts.distance(table, day);
        around.gather(x, y, distanceNow, distanceBefore);
        around.turn(x, y, day);
        return around.freshOnes;
    }

    public int fresh(int i) throws IndexOutOfBoundsException {
        if (i < 0) {
            throw new IndexOutOfBoundsException("i is below 0");
        }
        return around.freshOne(i);
    }

    public boolean in(int x, int y) throws IndexOutOfBoundsException, IllegalStateException {
        if (isNoPoint(x, y)) {
            throw new IndexOutOfBoundsException("the point is out of range");
        }
        if (parts.size == 0) {
            throw new IllegalStateException("the mixture is empty");
        }
        return around.covers(x, y, parts.distance(table, around.day));
    }

    public int step(int n) throws IndexOutOfBoundsException, IllegalStateException {
        if (isOutside(n, 1, MOST_STEPS)) {
            throw new IndexOutOfBoundsException("a step is 1 .. 6");
        }
        if (parts.size == 0 || n != parts.nextStep) {
            throw new IllegalStateException("not the next step, or the mixture is empty");
        }
        return parts.goOn(table);
    }

    public void mark(int kind, int v) throws IllegalArgumentException, IndexOutOfBoundsException {
        if (kind < 0 || kind >= KINDS) {
            throw new IllegalArgumentException("no such kind");
        }
        if (v < 0) {
            throw new IndexOutOfBoundsException("a mark is not below 0");
        }
        marks[kind] = v;
    }

    public boolean over(int kind, int v) throws IllegalArgumentException {
        if (kind < 0 || kind >= KINDS) {
            throw new IllegalArgumentException("no such kind");
        }
        return v >= marks[kind];
    }

    private static boolean isOutside(int value, int low, int high) {
        return value < low || value > high;
    }

    private static boolean isNoPoint(int x, int y) {
        return isOutside(x, -FARTHEST, FARTHEST) || isOutside(y, -FARTHEST, FARTHEST);
    }

    /** The byte that stands so many bytes above the lowest one. */
    private static int byteOf(long bytes, int above) {
        return (int) (bytes >>> (8 * above)) & 255;
    }

    private static boolean isLetter(int sign) {
        return sign >= 'a' && sign <= 'z';
    }

    private static boolean isDigit(int sign) {
        return sign >= '0' && sign <= '9';
    }

    private static boolean areLetters(long letters, int n) {
        for (int above = 0; above < n; above++) {
            if (!isLetter(byteOf(letters, above))) {
                return false;
            }
        }
        return true;
    }

    /** The general row (row 0) and the materials (rows from 1 on); the columns are material()'s whats. */
    private static final class Table {
        static final int CLASS = 0;
        static final int STRICTNESS = 1;
        static final int GEAR = 2;
        static final int DISTANCES = 3;
        static final int MUST_NOT_MEET = 7;
        static final int NAMES = 8;
        static final int COLUMNS = 9;

        static final int MOST_MATERIALS = 12;
        static final int MOST_NAMES = 3;
        static final int MOST_LETTERS = 10;
        static final int GENERAL_ROW = 0;
        static final int ROWS = 1 + MOST_MATERIALS;

        final int[] numbers;
        final int[] cells;
        final int[] nameLengths;
        final byte[] nameLetters;
        int materials;
        boolean hasGeneralRow;

        Table() {
            numbers = new int[ROWS];
            cells = new int[ROWS * COLUMNS];
            nameLengths = new int[ROWS * MOST_NAMES];
            nameLetters = new byte[ROWS * MOST_NAMES * MOST_LETTERS];
        }

        void removeAll() {
            materials = 0;
            hasGeneralRow = false;
            for (int i = 0; i < cells.length; i++) {
                cells[i] = 0;
            }
        }

        boolean isFull() {
            return materials >= MOST_MATERIALS;
        }

        /** The last row is the new material's then: only for a table that is not full. */
        void append(int number) {
            if (!isFull()) {
                materials++;
                numbers[materials] = number;
            }
        }

        int rowOf(int number) {
            for (int row = 1; row <= materials && row < ROWS; row++) {
                if (numbers[row] == number) {
                    return row;
                }
            }
            return NONE;
        }

        /** The row of numbers that are not in the table. */
        int rowOfOthers() {
            return hasGeneralRow ? GENERAL_ROW : NONE;
        }

        int cell(int row, int column) {
            int at = row * COLUMNS + column;
            return at >= 0 && at < cells.length ? cells[at] : 0;
        }

        void setCell(int row, int column, int value) {
            int at = row * COLUMNS + column;
            if (at >= 0 && at < cells.length) {
                cells[at] = value;
            }
        }

        int nameLength(int row, int name) {
            int at = row * MOST_NAMES + name;
            return at >= 0 && at < nameLengths.length ? nameLengths[at] : 0;
        }

        int nameLetter(int row, int name, int letter) {
            int at = (row * MOST_NAMES + name) * MOST_LETTERS + letter;
            return at >= 0 && at < nameLetters.length ? nameLetters[at] : 0;
        }

        void setNameLetter(int row, int name, int letter, int sign) {
            int at = (row * MOST_NAMES + name) * MOST_LETTERS + letter;
            if (at >= 0 && at < nameLetters.length) {
                nameLetters[at] = (byte) sign;
            }
        }

        void endName(int row, int name, int length) {
            int at = row * MOST_NAMES + name;
            if (at >= 0 && at < nameLengths.length) {
                nameLengths[at] = length;
            }
            setCell(row, NAMES, name + 1);
        }

        /** Whether the class of one row is among those that must not meet the other row, either way. */
        boolean contradict(int one, int other) {
            return hasInBits(cell(one, MUST_NOT_MEET), cell(other, CLASS))
                    || hasInBits(cell(other, MUST_NOT_MEET), cell(one, CLASS));
        }

        private static boolean hasInBits(int bits, int bit) {
            return (bits >> bit & 1) == 1;
        }
    }

    /** The tape, and the way from its bytes to a table. */
    private static final class Reader {
        static final int MOST_BYTES = 400;
        static final int END = -1;
        static final int MOST_DIGITS = 4;
        static final int MOST_GEAR = 4;
        static final int MOST_CLASSES = 3;
        static final int HIGHEST_CLASS = 9;
        static final int HIGHEST_STRICTNESS = 9;
        static final int HIGHEST_DISTANCE = 9999;
        static final int DISTANCES_A_ROW = 4;

        final int[] tape;
        int length;
        int at;
        /** The number, or the bits, that were read last. */
        int value;
        int wrongAt;

        Reader() {
            tape = new int[MOST_BYTES];
            wrongAt = NONE;
        }

        boolean hasRoomFor(int n) {
            return n <= MOST_BYTES - length;
        }

        int append(long bytes, int n) {
            for (int above = n - 1; above >= 0 && length < MOST_BYTES; above--) {
                tape[length] = byteOf(bytes, above);
                length++;
            }
            return length;
        }

        /** Uses the tape up. Whether it was right: only then the table is of use. */
        boolean fill(Table table) {
            table.removeAll();
            at = 0;
            wrongAt = NONE;
            boolean right = true;
            // A row takes a byte at least, so there are not more rows than bytes.
            for (int rows = 0; rows < MOST_BYTES && right && peek() != END; rows++) {
                right = readRow(table);
            }
            length = 0;
            return right;
        }

        private boolean readRow(Table table) {
            switch (peek()) {
                case 'm':
                    return startMaterial(table)
                            && readNames(table, table.materials)
                            && readClass(table, table.materials)
                            && readDue(table, table.materials)
                            && readOtherClasses(table, table.materials)
                            && take(';');
                case 'z':
                    return startGeneralRow(table) && readDue(table, Table.GENERAL_ROW) && take(';');
                default:
                    return wrong(at);
            }
        }

        private boolean startGeneralRow(Table table) {
            if (table.hasGeneralRow) {
                return wrong(at);
            }
            at++;
            table.hasGeneralRow = true;
            return true;
        }

        private boolean startMaterial(Table table) {
            if (table.isFull()) {
                return wrong(at);
            }
            at++;
            if (!readNumber(1, HIGHEST_NUMBER)) {
                return false;
            }
            if (table.rowOf(value) != NONE) {
                return wrong(at - 1);
            }
            table.append(value);
            return true;
        }

        private boolean readNames(Table table, int row) {
            int name = 0;
            do {
                if (!readName(table, row, name)) {
                    return false;
                }
                name++;
            } while (name < Table.MOST_NAMES && peek() == '"');
            return true;
        }

        private boolean readName(Table table, int row, int name) {
            if (!take('"')) {
                return false;
            }
            int letters = 0;
            while (letters < Table.MOST_LETTERS && isLetter(byteHere())) {
                table.setNameLetter(row, name, letters, byteHere());
                letters++;
                at++;
            }
            if (letters == 0 || byteHere() != '"') {
                return wrong(at);
            }
            at++;
            table.endName(row, name, letters);
            return true;
        }

        private boolean readClass(Table table, int row) {
            if (!take('c') || !readNumber(1, HIGHEST_CLASS)) {
                return false;
            }
            table.setCell(row, Table.CLASS, value);
            return true;
        }

        private boolean readDue(Table table, int row) {
            if (!take('r') || !readNumber(0, HIGHEST_STRICTNESS)) {
                return false;
            }
            table.setCell(row, Table.STRICTNESS, value);
            if (!take('g') || !readRising('a', 'h', MOST_GEAR, 'a')) {
                return false;
            }
            table.setCell(row, Table.GEAR, value);
            for (int i = 0; i < DISTANCES_A_ROW; i++) {
                if (!take(i == 0 ? '@' : ',') || !readNumber(0, HIGHEST_DISTANCE)) {
                    return false;
                }
                table.setCell(row, Table.DISTANCES + i, value);
            }
            return true;
        }

        private boolean readOtherClasses(Table table, int row) {
            if (peek() != 'x') {
                return true;
            }
            at++;
            if (!readRising('1', '9', MOST_CLASSES, '0')) {
                return false;
            }
            table.setCell(row, Table.MUST_NOT_MEET, value);
            return true;
        }

        /**
         * One to most signs that rise, as bits above the zero sign. A sign that does not rise, or is
         * one too many, is left to what has to follow: that finds it wrong in the same place.
         */
        private boolean readRising(int low, int high, int most, int zero) {
            value = 0;
            int lowest = low;
            int signs = 0;
            int sign = peek();
            while (signs < most && sign >= lowest && sign <= high) {
                value |= 1 << (sign - zero);
                lowest = sign + 1;
                signs++;
                at++;
                sign = peek();
            }
            return signs > 0 || wrong(at);
        }

        /**
         * A number from low to high; out of range it is wrong at its last digit. A digit behind a 0, or
         * behind four digits, is left to what has to follow: that finds it wrong in its place.
         */
        private boolean readNumber(int low, int high) {
            int first = peek();
            if (!isDigit(first) || (first == '0' && low > 0)) {
                return wrong(at);
            }
            int mostDigits = first == '0' ? 1 : MOST_DIGITS;
            value = 0;
            for (int digits = 0; digits < mostDigits && isDigit(byteHere()); digits++) {
                value = value * 10 + byteHere() - '0';
                at++;
            }
            return value <= high || wrong(at - 1);
        }

        private boolean take(int sign) {
            if (peek() != sign) {
                return wrong(at);
            }
            at++;
            return true;
        }

        /** The next byte that is no blank. */
        private int peek() {
            while (at < length && at < MOST_BYTES && tape[at] == ' ') {
                at++;
            }
            return at < length && at < MOST_BYTES ? tape[at] : END;
        }

        private int byteHere() {
            return at < length && at < MOST_BYTES ? tape[at] : END;
        }

        private boolean wrong(int place) {
            wrongAt = place;
            return false;
        }
    }

    /** The word that was said last, and the materials by how near their names are to it. */
    private static final class Speller {
        final int[] word;
        final int[] edits;
        final int[] numbers;
        final int[] distances;
        int letters;
        int count;

        Speller() {
            word = new int[MOST_BYTES_A_CALL];
            edits = new int[MOST_BYTES_A_CALL + 1];
            numbers = new int[Table.MOST_MATERIALS];
            distances = new int[Table.MOST_MATERIALS];
        }

        void forget() {
            count = 0;
        }

        void hear(long bytes, int n) {
            letters = 0;
            for (int above = n - 1; above >= 0 && letters < MOST_BYTES_A_CALL; above--) {
                word[letters] = byteOf(bytes, above);
                letters++;
            }
        }

        void rank(Table table) {
            count = 0;
            for (int row = 1; row <= table.materials && row < Table.ROWS; row++) {
                insert(table.numbers[row], distanceTo(table, row));
            }
        }

        int ranked(int i) {
            return i >= 0 && i < count && i < numbers.length ? numbers[i] : NONE;
        }

        private void insert(int number, int distance) {
            if (count >= numbers.length) {
                return;
            }
            int i = count;
            while (i > 0 && isBehind(i - 1, number, distance)) {
                numbers[i] = numbers[i - 1];
                distances[i] = distances[i - 1];
                i--;
            }
            numbers[i] = number;
            distances[i] = distance;
            count++;
        }

        private boolean isBehind(int i, int number, int distance) {
            return distances[i] > distance || (distances[i] == distance && numbers[i] > number);
        }

        private int distanceTo(Table table, int row) {
            int least = editsTo(table, row, 0);
            for (int name = 1; name < table.cell(row, Table.NAMES); name++) {
                least = Math.min(least, editsTo(table, row, name));
            }
            return least;
        }

        /** edits[j] is the distance of the name's letters so far from the word's first j letters. */
        private int editsTo(Table table, int row, int name) {
            for (int j = 0; j <= letters && j < edits.length; j++) {
                edits[j] = j;
            }
            int length = table.nameLength(row, name);
            for (int i = 1; i <= length; i++) {
                addLetter(table.nameLetter(row, name, i - 1), i);
            }
            return letters >= 0 && letters < edits.length ? edits[letters] : 0;
        }

        private void addLetter(int letter, int lettersOfName) {
            int shorterBoth = edits[0];
            edits[0] = lettersOfName;
            for (int j = 1; j <= letters && j < edits.length; j++) {
                int changed = shorterBoth + (word[j - 1] == letter ? 0 : 1);
                shorterBoth = edits[j];
                edits[j] = Math.min(changed, 1 + Math.min(edits[j - 1], edits[j]));
            }
        }
    }

    /** The parts as they came, each with its row in the table, and the step of cleaning that is next. */
    private static final class Mixture {
        static final int MOST_PARTS = 8;
        static final int MOST_LITRES_OF_SMALL = 200;
        static final int STRICT = 5;
        static final int STEPS_BELOW_STRICT = 3;

        final int[] numbers;
        final int[] rows;
        final boolean[] large;
        int size;
        int nextStep;

        Mixture() {
            numbers = new int[MOST_PARTS];
            rows = new int[MOST_PARTS];
            large = new boolean[MOST_PARTS];
            nextStep = 1;
        }

        void removeAll() {
            size = 0;
            nextStep = 1;
        }

        boolean isFull() {
            return size >= MOST_PARTS;
        }

        private int row(int part) {
            return part >= 0 && part < MOST_PARTS ? rows[part] : NONE;
        }

        /** How many parts the new one contradicts: only for a mixture that is not full. */
        int append(int number, int row, int amount, Table table) {
            if (isFull()) {
                return 0;
            }
            numbers[size] = number;
            rows[size] = row;
            large[size] = amount > MOST_LITRES_OF_SMALL;
            size++;
            return contradictedBefore(size - 1, table);
        }

        int strictness(Table table) {
            int greatest = 0;
            for (int i = 0; i < size; i++) {
                greatest = Math.max(greatest, table.cell(row(i), Table.STRICTNESS));
            }
            return greatest;
        }

        int gear(Table table) {
            int bits = 0;
            for (int i = 0; i < size; i++) {
                bits |= table.cell(row(i), Table.GEAR);
            }
            return bits;
        }

        /** Of an empty mixture NONE, which no point is near enough for. */
        int distance(Table table, boolean day) {
            int greatest = NONE;
            for (int i = 0; i < size && i < MOST_PARTS; i++) {
                int column = Table.DISTANCES + (large[i] ? 2 : 0) + (day ? 0 : 1);
                greatest = Math.max(greatest, table.cell(row(i), column));
            }
            return greatest;
        }

        int contradictingPairs(Table table) {
            int pairs = 0;
            for (int i = 0; i < size; i++) {
                pairs += contradictedBefore(i, table);
            }
            return pairs;
        }

        private int contradictedBefore(int part, Table table) {
            int contradicted = 0;
            for (int i = 0; i < part; i++) {
                if (table.contradict(row(i), row(part))) {
                    contradicted++;
                }
            }
            return contradicted;
        }

        /** The number of the i-th of the strictest parts. */
        int strictest(int i, Table table) {
            int strictness = strictness(table);
            int before = 0;
            for (int part = 0; part < size && part < MOST_PARTS; part++) {
                if (table.cell(row(part), Table.STRICTNESS) == strictness) {
                    if (before == i) {
                        return numbers[part];
                    }
                    before++;
                }
            }
            return NONE;
        }

        /** The step behind the one that is done now. */
        int goOn(Table table) {
            int last = strictness(table) < STRICT ? STEPS_BELOW_STRICT : MOST_STEPS;
            nextStep = nextStep < last ? nextStep + 1 : 1;
            return nextStep;
        }
    }

    /** The wind, day or night, and the buildings. */
    private static final class Surroundings {
        static final int MOST_BUILDINGS = 40;

        final int[] buildingX;
        final int[] buildingY;
        final int[] fresh;
        int buildings;
        int freshOnes;
        int windX;
        int windY;
        boolean day;

        Surroundings() {
            buildingX = new int[MOST_BUILDINGS];
            buildingY = new int[MOST_BUILDINGS];
            fresh = new int[MOST_BUILDINGS];
            windX = 1;
            windY = 0;
            day = true;
        }

        boolean isFull() {
            return buildings >= MOST_BUILDINGS;
        }

        /** The number of the new building: only where there is room for it. */
        int append(int x, int y) {
            if (isFull()) {
                return NONE;
            }
            buildingX[buildings] = x;
            buildingY[buildings] = y;
            buildings++;
            return buildings - 1;
        }

        void turn(int x, int y, boolean byDay) {
            windX = x;
            windY = y;
            day = byDay;
        }

        /** The buildings that a wind to come would reach and the present one does not. */
        void gather(int x, int y, int distance, int distanceBefore) {
            freshOnes = 0;
            for (int i = 0; i < buildings && i < MOST_BUILDINGS; i++) {
                boolean now = reaches(x, y, distance, buildingX[i], buildingY[i]);
                if (now && !covers(buildingX[i], buildingY[i], distanceBefore) && freshOnes < MOST_BUILDINGS) {
                    fresh[freshOnes] = i;
                    freshOnes++;
                }
            }
        }

        int freshOne(int i) {
            return i >= 0 && i < freshOnes && i < MOST_BUILDINGS ? fresh[i] : NONE;
        }

        boolean covers(int x, int y, int distance) {
            return reaches(windX, windY, distance, x, y);
        }

        /**
         * Not more than 45 degrees off the wind is the same as: not more aside of it (cross) than
         * along it (dot). The place itself, where both are 0, needs no rule of its own by that.
         */
        private static boolean reaches(int windX, int windY, int distance, int x, int y) {
            if (distance < 0 || x * x + y * y > distance * distance) {
                return false;
            }
            int dot = windX * x + windY * y;
            int cross = windX * y - windY * x;
            return dot >= Math.abs(cross);
        }
    }
}
