import java.util.Arrays;
import java.util.Map;
import java.util.Set;
import java.util.TreeSet;

/**
 * Calls that are answered: what each of them changes of the object, and that it changes nothing else.
 * What calls that are refused leave as it was stands in RefusalTest.
 */
public final class ChangeTest {
    private interface DeedOn {
        void run(HazardTables x);
    }

    public static void main(String[] args) {
        statesAreAsTold();
        questions();
        tape();
        rightTexts();
        words();
        mixtures();
        winds();
        steps();
        marks();
        Due.end();
    }

    /** The states would be of no use if they were not what their names say. */
    private static void statesAreAsTold() {
        HazardTables used = State.USED.made();
        Due.answer("place of USED", 2, used::place);
        Due.answer("parts of USED", 2, () -> used.mixture(4));
        Due.answer("the fresh one of USED", 0, () -> used.fresh(0));
        Due.answer("the step of USED", 3, () -> used.step(2));
        Due.answer("the word of USED", 2, () -> used.near(0));
        Due.answer("the next building of USED", 3, () -> used.building(0, 0));
        HazardTables cleared = State.CLEARED.made();
        Due.answer("the parts of CLEARED", -1, () -> cleared.strict(0));
        Due.answer("the fresh one of CLEARED", 0, () -> cleared.fresh(0));
        HazardTables general = State.GENERAL_ONLY.made();
        Due.answer("the word of GENERAL_ONLY", -1, () -> general.near(0));
        Due.answer("parts of GENERAL_ONLY", 1, () -> general.mixture(4));
        Due.answer("the step of GENERAL_ONLY", 3, () -> general.step(2));
        int length = State.ON_THE_TAPE.length();
        Due.answer("the tape of LONG_TAPE", 400, () -> State.LONG_TAPE.made().sign(';', 1));
        Due.answer("parts of EIGHT_PARTS", 8, () -> State.EIGHT_PARTS.made().mixture(4));
        Due.answer("the tape of EIGHT_PARTS", length + 1, () -> State.EIGHT_PARTS.made().sign(';', 1));
        Due.answer("the tape of FORTY_BUILDINGS", length + 1, () -> State.FORTY_BUILDINGS.made().sign(';', 1));
        HazardTables full = State.FULL.made();
        Due.answer("parts of FULL", 8, () -> full.mixture(4));
        Due.answer("pairs of FULL", 28, () -> full.mixture(5));
        Due.answer("the last fresh one of FULL", 39, () -> full.fresh(39));
        Due.answer("the last near one of FULL", 12, () -> full.near(11));
        Due.answer("the tape of FULL", 400, () -> full.sign(';', 1));
        Due.answer("its text", 1, full::read);
    }

    /** The names of all looks that show another thing behind the call than without it. */
    private static Set<String> changed(State state, DeedOn deed) {
        Set<String> changed = new TreeSet<>();
        for (Map.Entry<String, Look.Taker> look : Look.all().entrySet()) {
            HazardTables x = state.made();
            deed.run(x);
            if (!Look.at(x, look.getValue()).equals(Look.at(state.made(), look.getValue()))) {
                changed.add(look.getKey());
            }
        }
        return changed;
    }

    private static void changes(State state, String call, String looks, DeedOn deed) {
        Set<String> due = new TreeSet<>(Arrays.asList(looks.split(" ")));
        due.remove("");
        Due.same("what " + call + " of " + state + " changed", due, changed(state, deed));
    }

    /** Calls that only ask; where a state refuses them, RefusalTest has them. */
    private static void questions() {
        for (State state : State.values()) {
            changes(state, "place()", "", HazardTables::place);
            changes(state, "near(0)", "", x -> x.near(0));
            changes(state, "near(99)", "", x -> x.near(99));
            changes(state, "strict(0)", "", x -> x.strict(0));
            changes(state, "strict(99)", "", x -> x.strict(99));
            changes(state, "fresh(0)", "", x -> x.fresh(0));
            changes(state, "fresh(99)", "", x -> x.fresh(99));
            changes(state, "over(2, 7)", "", x -> x.over(2, 7));
            changes(state, "over(4, 0)", "", x -> x.over(4, 0));
        }
        for (State state : new State[] {State.USED, State.LONG_TAPE, State.EIGHT_PARTS, State.FORTY_BUILDINGS, State.FULL}) {
            for (int what = 0; what <= 8; what++) {
                int w = what;
                changes(state, "material(1, " + w + ")", "", x -> x.material(1, w));
            }
            for (int what = 0; what <= 5; what++) {
                int w = what;
                changes(state, "mixture(" + w + ")", "", x -> x.mixture(w));
            }
            changes(state, "in(0, 0)", "", x -> x.in(0, 0));
            changes(state, "in(-10000, 10000)", "", x -> x.in(-10000, 10000));
        }
    }

    private static void tape() {
        for (State state : State.values()) {
            changes(state, "sign(q, 1)", "tape", x -> x.sign('q', 1));
        }
        changes(State.USED, "sign(;zr1.., 8)", "tape", x -> x.sign(Due.packed(";zr1ga@1"), 8));
    }

    /** Wind, buildings, fresh ones and marks stay; without a part, the next step is 1 again. */
    private static void rightTexts() {
        String same = State.FIRST + State.SECOND + State.GENERAL;
        changes(State.USED, "read() of the same table", "word mixture tape place step1 step2", x -> readAlone(x, same));
        changes(State.CLEARED, "read() of the same table", "word tape place", x -> readAlone(x, same));
        changes(State.CLEARED, "read() of another general row", "word tape place table", x -> readAlone(x, same.replace("r5", "r9")));
        changes(State.NEW, "read() of no text", "", x -> x.read());
        changes(State.NEW, "read() of a general row", "table plume step1", x -> readAlone(x, State.GENERAL));
    }

    /** What is on the tape is used up first, as a wrong text, so that the text is the right one alone. */
    private static void readAlone(HazardTables x, String text) {
        x.sign('q', 1);
        Due.refusal("a wrong text", IllegalStateException.class, x::read);
        Due.read(x, text);
    }

    private static void words() {
        changes(State.USED, "say c", "word", x -> Due.say(x, "c"));
        changes(State.USED, "say b again", "", x -> Due.say(x, "b"));
        changes(State.CLEARED, "say c", "word", x -> Due.say(x, "c"));
        changes(State.FULL, "say z", "", x -> Due.say(x, "z"));
    }

    private static void mixtures() {
        changes(State.USED, "add(1, 201)", "mixture plume buildings", x -> x.add(1, 201));
        changes(State.USED, "add(2, 1)", "mixture", x -> x.add(2, 1));
        changes(State.USED, "add(3, 1)", "mixture", x -> x.add(3, 1));
        changes(State.CLEARED, "add(1, 1)", "mixture", x -> x.add(1, 1));
        changes(State.USED, "clear()", "mixture step1 step2", HazardTables::clear);
        changes(State.FULL, "clear()", "mixture plume buildings step1 step6", HazardTables::clear);
        changes(State.CLEARED, "clear() again", "", HazardTables::clear);
        changes(State.NEW, "clear()", "", HazardTables::clear);
    }

    private static void winds() {
        changes(State.USED, "wind(0, 1, night) again", "fresh", x -> x.wind(0, 1, false));
        changes(State.USED, "wind(1, 0, day)", "fresh plume", x -> x.wind(1, 0, true));
        changes(State.CLEARED, "wind(1, 0, day)", "fresh plume", x -> x.wind(1, 0, true));
        changes(State.NEW, "wind(0, 1, day)", "", x -> x.wind(0, 1, true));
        changes(State.USED, "building(0, 7)", "buildings", x -> x.building(0, 7));
        changes(State.CLEARED, "building(0, 0)", "buildings", x -> x.building(0, 0));
        changes(State.NEW, "building(0, 0)", "buildings", x -> x.building(0, 0));
    }

    private static void steps() {
        changes(State.USED, "step(2)", "step2 step3", x -> x.step(2));
        changes(State.FULL, "step(6)", "step1 step6", x -> x.step(6));
    }

    private static void marks() {
        for (State state : State.values()) {
            for (int kind = 0; kind <= 4; kind++) {
                int k = kind;
                changes(state, "mark(" + k + ", 8)", "marks", x -> x.mark(k, 8));
            }
            changes(state, "mark(3, 1000) again", "", x -> x.mark(3, 1000));
        }
    }
}
