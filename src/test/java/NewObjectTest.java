/** Promise 1: an empty table and mixture, day; what the terms say of a start. */
public final class NewObjectTest {
    public static void main(String[] args) {
        HazardTables x = new HazardTables();
        Due.answer("place()", -1, x::place);
        Due.answer("near(0)", -1, () -> x.near(0));
        Due.answer("strict(0)", -1, () -> x.strict(0));
        Due.answer("fresh(0)", -1, () -> x.fresh(0));
        Due.refusal("material(1, 0)", IllegalArgumentException.class, () -> x.material(1, 0));
        Due.refusal("material(0, 0)", IllegalArgumentException.class, () -> x.material(0, 0));
        Due.refusal("say a", IllegalStateException.class, () -> Due.say(x, "a"));
        Due.refusal("add(1, 1)", IllegalArgumentException.class, () -> x.add(1, 1));
        Due.refusal("mixture(4)", IllegalStateException.class, () -> x.mixture(4));
        Due.refusal("in(0, 0)", IllegalStateException.class, () -> x.in(0, 0));
        Due.refusal("step(1)", IllegalStateException.class, () -> x.step(1));
        for (int kind = 0; kind < 5; kind++) {
            int k = kind;
            Due.answer("over(" + k + ", 999)", false, () -> x.over(k, 999));
            Due.answer("over(" + k + ", 1000)", true, () -> x.over(k, 1000));
        }
        startsByDayWithAWindAlongX();
        objectsAreApart();
        Due.end();
    }

    private static void startsByDayWithAWindAlongX() {
        HazardTables x = Due.with("m1\"a\"c1r1ga@10,20,30,40;");
        x.add(1, 1);
        Due.answer("in(10, 0)", true, () -> x.in(10, 0));
        Due.answer("in(11, 0) by day", false, () -> x.in(11, 0));
        Due.answer("in(5, 5)", true, () -> x.in(5, 5));
        Due.answer("in(5, -5)", true, () -> x.in(5, -5));
        Due.answer("in(5, 6)", false, () -> x.in(5, 6));
        Due.answer("in(-10, 0)", false, () -> x.in(-10, 0));
    }

    private static void objectsAreApart() {
        HazardTables one = Due.with("m1\"a\"c1r1ga@10,20,30,40;");
        HazardTables other = new HazardTables();
        one.mark(0, 1);
        one.building(1, 1);
        Due.refusal("material of another object", IllegalArgumentException.class, () -> other.material(1, 0));
        Due.answer("over of another object", false, () -> other.over(0, 1));
        Due.answer("building of another object", 0, () -> other.building(1, 1));
    }
}
