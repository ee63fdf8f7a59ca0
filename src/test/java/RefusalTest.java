/**
 * Every refusal of the document: the call throws what the document names, and behind it the object
 * looks as one for which it was never made, but for what the document says (read() uses up the tape).
 */
public final class RefusalTest {
    private static final Class<IllegalArgumentException> UNKNOWN = IllegalArgumentException.class;
    private static final Class<IndexOutOfBoundsException> RANGE = IndexOutOfBoundsException.class;
    private static final Class<IllegalStateException> STATE = IllegalStateException.class;
    private static final Class<UnsupportedOperationException> ROOM = UnsupportedOperationException.class;

    private static final int[] EXTREMES = {Integer.MIN_VALUE, Integer.MAX_VALUE};

    private interface On {
        Object call(HazardTables x);
    }

    private interface DeedOn {
        void run(HazardTables x);
    }

    public static void main(String[] args) {
        sign();
        read();
        material();
        say();
        indices();
        add();
        mixture();
        building();
        wind();
        in();
        step();
        marks();
        Due.end();
    }

    private static void refused(State state, String call, Class<? extends RuntimeException> want, On made) {
        for (Look.Taker taker : Look.all().values()) {
            HazardTables x = state.made();
            Due.refusal(call + " of " + state, want, () -> made.call(x));
            Due.same("a look behind " + call + " of " + state, Look.at(state.made(), taker), Look.at(x, taker));
        }
    }

    private static void refusedDeed(State state, String call, Class<? extends RuntimeException> want, DeedOn deed) {
        refused(state, call, want, x -> {
            deed.run(x);
            return "done";
        });
    }

    private static void sign() {
        for (State state : State.values()) {
            refused(state, "sign(q, 0)", RANGE, x -> x.sign('q', 0));
            refused(state, "sign(q, 9)", RANGE, x -> x.sign('q', 9));
            refused(state, "sign(q, -1)", RANGE, x -> x.sign('q', -1));
            for (int n : EXTREMES) {
                refused(state, "sign(q, " + n + ")", RANGE, x -> x.sign('q', n));
            }
        }
        for (int n = 2; n <= 8; n++) {
            int bytes = n;
            refused(State.FULL, "sign(qq.., " + n + ")", ROOM, x -> x.sign(Due.packed("qqqqqqqq"), bytes));
            refused(State.LONG_TAPE, "sign(qq.., " + n + ")", ROOM, x -> x.sign(Due.packed("qqqqqqqq"), bytes));
        }
    }

    /** Behind a wrong text all is as it was, but for the tape, which is used up, and place(). */
    private static void read() {
        String[] barred = {"|q", "m|", "m|0", State.FIRST + "m|1", State.FIRST + State.GENERAL + "|z",
            "m2\"b\"c9r9gh@1,1,1,1;" + State.GENERAL + "m3\"b\"c9r9gh@1,1,1,1x12|2", "m1\"zz\"\"zz\"\"zz\"c9r9gh@1,1,1,1|"};
        for (State state : State.values()) {
            for (String text : barred) {
                for (Look.Taker taker : Look.allButPlace().values()) {
                    HazardTables x = state.madeWithoutTape();
                    Due.put(x, text.replace("|", ""));
                    Due.refusal("read() of " + text, STATE, x::read);
                    Due.answer("place() of " + text, text.indexOf('|'), x::place);
                    Due.same("a look behind read() of " + text + " of " + state,
                            Look.at(state.madeWithoutTape(), taker), Look.at(x, taker));
                }
            }
        }
    }

    private static void material() {
        for (State state : State.values()) {
            for (int number : new int[] {-1, 13, 10000, Integer.MIN_VALUE, Integer.MAX_VALUE}) {
                refused(state, "material(" + number + ", 0)", UNKNOWN, x -> x.material(number, 0));
            }
            for (int what : new int[] {-1, 9, Integer.MIN_VALUE, Integer.MAX_VALUE}) {
                refused(state, "material(1, " + what + ")", UNKNOWN, x -> x.material(1, what));
                refused(state, "material(0, " + what + ")", UNKNOWN, x -> x.material(0, what));
            }
        }
        for (State state : new State[] {State.NEW, State.EIGHT_PARTS, State.FULL}) {
            refused(state, "material(0, 0)", UNKNOWN, x -> x.material(0, 0));
        }
    }

    private static void say() {
        for (State state : State.values()) {
            for (int n : new int[] {0, 9, -1, Integer.MIN_VALUE, Integer.MAX_VALUE}) {
                refused(state, "say(c.., " + n + ")", RANGE, x -> x.say(Due.packed("cccccccc"), n));
            }
            for (String word : new String[] {"`", "{", "C", "c c", "cccccccC", "Cccccccc"}) {
                refused(state, "say " + word, RANGE, x -> Due.say(x, word));
            }
        }
        refused(State.NEW, "say c", STATE, x -> Due.say(x, "c"));
        refused(State.GENERAL_ONLY, "say c", STATE, x -> Due.say(x, "c"));
    }

    private static void indices() {
        for (State state : State.values()) {
            for (int i : new int[] {-1, Integer.MIN_VALUE}) {
                refused(state, "near(" + i + ")", RANGE, x -> x.near(i));
                refused(state, "strict(" + i + ")", RANGE, x -> x.strict(i));
                refused(state, "fresh(" + i + ")", RANGE, x -> x.fresh(i));
            }
        }
    }

    private static void add() {
        for (int number : new int[] {1, 0, 10000}) {
            refused(State.NEW, "add(" + number + ", 1)", UNKNOWN, x -> x.add(number, 1));
        }
        for (State state : new State[] {State.EIGHT_PARTS, State.FULL}) {
            for (int number : new int[] {13, 9999, 10000, 0, -1}) {
                refused(state, "add(" + number + ", 1)", UNKNOWN, x -> x.add(number, 1));
            }
            refused(state, "add(1, 1)", ROOM, x -> x.add(1, 1));
            refused(state, "add(2, 100000)", ROOM, x -> x.add(2, 100000));
        }
        for (State state : new State[] {State.USED, State.CLEARED, State.GENERAL_ONLY}) {
            for (int number : new int[] {0, -1, 10000, Integer.MIN_VALUE, Integer.MAX_VALUE}) {
                refused(state, "add(" + number + ", 1)", RANGE, x -> x.add(number, 1));
            }
        }
        for (State state : State.values()) {
            for (int amount : new int[] {0, -1, 100001, Integer.MIN_VALUE, Integer.MAX_VALUE}) {
                refused(state, "add(1, " + amount + ")", state == State.NEW ? UNKNOWN : RANGE, x -> x.add(1, amount));
            }
        }
    }

    private static void mixture() {
        for (State state : State.values()) {
            for (int what : new int[] {-1, 6, Integer.MIN_VALUE, Integer.MAX_VALUE}) {
                refused(state, "mixture(" + what + ")", UNKNOWN, x -> x.mixture(what));
            }
        }
        for (State state : new State[] {State.NEW, State.CLEARED}) {
            for (int what = 0; what <= 5; what++) {
                int w = what;
                refused(state, "mixture(" + w + ")", STATE, x -> x.mixture(w));
            }
        }
    }

    private static void building() {
        for (State state : State.values()) {
            for (int v : new int[] {-10001, 10001, Integer.MIN_VALUE, Integer.MAX_VALUE}) {
                refused(state, "building(" + v + ", 0)", RANGE, x -> x.building(v, 0));
                refused(state, "building(0, " + v + ")", RANGE, x -> x.building(0, v));
            }
        }
        for (State state : new State[] {State.FORTY_BUILDINGS, State.FULL}) {
            refused(state, "building(0, 0)", ROOM, x -> x.building(0, 0));
            refused(state, "building(0, 5)", ROOM, x -> x.building(0, 5));
        }
    }

    private static void wind() {
        for (State state : State.values()) {
            for (boolean day : new boolean[] {true, false}) {
                for (int v : new int[] {-101, 101, Integer.MIN_VALUE, Integer.MAX_VALUE}) {
                    refused(state, "wind(" + v + ", 1, " + day + ")", RANGE, x -> x.wind(v, 1, day));
                    refused(state, "wind(-1, " + v + ", " + day + ")", RANGE, x -> x.wind(-1, v, day));
                }
                refused(state, "wind(0, 0, " + day + ")", RANGE, x -> x.wind(0, 0, day));
            }
        }
    }

    private static void in() {
        for (State state : State.values()) {
            for (int v : new int[] {-10001, 10001, Integer.MIN_VALUE, Integer.MAX_VALUE}) {
                refused(state, "in(" + v + ", 0)", RANGE, x -> x.in(v, 0));
                refused(state, "in(0, " + v + ")", RANGE, x -> x.in(0, v));
            }
        }
        refused(State.NEW, "in(0, 0)", STATE, x -> x.in(0, 0));
        refused(State.CLEARED, "in(0, 0)", STATE, x -> x.in(0, 0));
    }

    private static void step() {
        for (State state : State.values()) {
            for (int n : new int[] {0, 7, -1, Integer.MIN_VALUE, Integer.MAX_VALUE}) {
                refused(state, "step(" + n + ")", RANGE, x -> x.step(n));
            }
            int next = state == State.FULL ? 6 : state == State.NEW || state == State.CLEARED ? 0 : 2;
            for (int n = 1; n <= 6; n++) {
                int step = n;
                if (step != next) {
                    refused(state, "step(" + step + ")", STATE, x -> x.step(step));
                }
            }
        }
    }

    private static void marks() {
        for (State state : State.values()) {
            for (int kind : new int[] {-1, 5, Integer.MIN_VALUE, Integer.MAX_VALUE}) {
                refusedDeed(state, "mark(" + kind + ", 8)", UNKNOWN, x -> x.mark(kind, 8));
                refusedDeed(state, "mark(" + kind + ", -1)", UNKNOWN, x -> x.mark(kind, -1));
                refused(state, "over(" + kind + ", 8)", UNKNOWN, x -> x.over(kind, 8));
            }
            for (int kind = 0; kind <= 4; kind++) {
                int k = kind;
                refusedDeed(state, "mark(" + k + ", -1)", RANGE, x -> x.mark(k, -1));
                refusedDeed(state, "mark(" + k + ", lowest)", RANGE, x -> x.mark(k, Integer.MIN_VALUE));
            }
        }
    }
}
