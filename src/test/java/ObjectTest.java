/** Promise 18: OBJECTS, their classes and fields. */
public final class ObjectTest {
    private static final String OUT = "IndexOutOfBoundsException";

    public static void main(String[] args) {
        Checks checks = new Checks("ObjectTest");
        // D has: of A q (told by P before A), a, r (told by R behind A); of B b; of D d, a. The nearest a is that of D.
        String text = "class D under B { field d; field a; } aspect P { in A field q; } class A { field a; method init() { self.q = 1; } } "
                + "aspect R { in A field r; in B under A; } class B { field b; method init() { self.a = 2; self.r = self; } } "
                + "main { let x = new D(); x.a = 3; x.d = none; x.b = x; new A(); let y = new D(); y.b = 0 - 1; }";
        for (int woven = 0; woven < 2; woven++) {
            WeaveHouse house = Checks.done(text, woven == 1);
            checks.due("OBJECTS", house.told(4), 3);
            checks.due("object 1", shown(house, 1), "0: none none #1 #1 none 3");
            checks.due("object 2", shown(house, 2), "1: 1 none none");
            checks.due("object 3", shown(house, 3), "0: none none #3 -1 none 2");
            edges(checks, house);
        }
        fresh(checks);
        checks.end();
    }

    private static String shown(WeaveHouse house, int o) {
        StringBuilder all = new StringBuilder();
        all.append(house.object(o, WeaveHouse.NONE, 0)).append(':');
        try {
            for (int i = 0; i < 200; i++) {
                String field = Checks.value(house.object(o, i, 0), house.object(o, i, 1));
                all.append(' ').append(field);
            }
        } catch (IndexOutOfBoundsException e) {
            return all.toString();
        }
        return "too many";
    }

    private static void edges(Checks checks, WeaveHouse house) {
        checks.dueThrow("object(0)", () -> house.object(0, -1, 0), OUT);
        checks.dueThrow("object(4)", () -> house.object(4, -1, 0), OUT);
        checks.dueThrow("object(-1)", () -> house.object(-1, -1, 0), OUT);
        checks.dueThrow("class with what 1", () -> house.object(1, -1, 1), OUT);
        checks.dueThrow("class with what -1", () -> house.object(1, -1, -1), OUT);
        checks.dueThrow("field -2", () -> house.object(1, -2, 0), OUT);
        checks.dueThrow("field 6", () -> house.object(1, 6, 0), OUT);
        checks.dueThrow("field 3 of the smaller", () -> house.object(2, 3, 0), OUT);
        checks.dueThrow("field with what 2", () -> house.object(1, 0, 2), OUT);
        checks.dueThrow("field with what -1", () -> house.object(1, 0, -1), OUT);
    }

    /** The fields of a new OBJECT are NONE, whatever an earlier RUN left there; and so are those of aspects. */
    private static void fresh(Checks checks) {
        WeaveHouse house = Checks.compiled("class A { field x; method f() { print self.x; self.x = 1; } } main { let a = new A(); a.f(); a.f(); } "
                + "aspect P { field n; before () call \"f\" { print n; n = 5; } } "
                + "aspect E each object { field n; before () call \"f\" { print n; n = 6; } }");
        for (int i = 0; i < 3; i++) {
            house.begin(i % 2 == 1);
            house.run(2000);
            checks.due("THE OUTPUT of RUN " + i, Checks.output(house), "none none none 5 6 1");
        }
    }
}
