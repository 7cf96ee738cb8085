/** Promises 4, 6, 7, 10 and 11: how much was compiled, POINTS, ORDER, what is above what. */
public final class ShapeTest {
    private static final String OUT = "IndexOutOfBoundsException";

    public static void main(String[] args) {
        Checks checks = new Checks("ShapeTest");
        counts(checks);
        points(checks);
        order(checks);
        above(checks);
        again(checks);
        checks.end();
    }

    private static void counts(Checks checks) {
        WeaveHouse house = Checks.compiled("class A { method f() { } } class B under A { method f() { } method g() { } } "
                + "aspect P { in A method h() { } pick p() = catch; before () p() { } warn run \"f\"; warn call \"f\"; } "
                + "aspect Q { pick p() = catch; pick q() = catch; behind () q() { } around () catch { } } "
                + "aspect R { } main { new A().f(); }");
        int[] wanted = {2, 4, 3, 3, 6, 3, 3};
        for (int what = 0; what <= 6; what++) {
            checks.due("count(" + what + ")", house.count(what), wanted[what]);
        }
        checks.dueThrow("count(7)", () -> house.count(7), OUT);
        checks.dueThrow("count(-1)", () -> house.count(-1), OUT);
    }

    private static void points(Checks checks) {
        String text = "main { let a = new A(1, new A(2, 3)); a.x = a.y.f(a.z); try { } catch e { } }\n"
                + "class A { method init(p, q) { self.x.y = p; } } aspect P { in A method f(b) { b.g(); } "
                + "before () catch { new A(1, 2); } around () call \"f\" { try { go; } catch r { } } }";
        WeaveHouse house = Checks.compiled(text);
        // kind, what stands at its place, ARGS, where, which
        String[] wanted = {"2 new 2 0 0", "2 new 2 0 0", "4 .x 1 0 0", "3 .y 0 0 0", "0 .f 1 0 0", "3 .z 0 0 0", "5 catch 1 0 0",
                "1 init 2 1 0", "3 .x 0 1 0", "4 .y 1 1 0", "1 f( 1 1 1", "0 .g 0 1 1", "2 new 2 2 0", "5 catch 1 2 1"};
        checks.due("POINTS", house.compile(), wanted.length);
        int last = -1;
        for (int i = 0; i < wanted.length; i++) {
            String[] parts = wanted[i].split(" ");
            int place = house.point(i, 1);
            checks.due("kind of " + i, house.point(i, 0), Integer.parseInt(parts[0]));
            checks.due("text of " + i, text.substring(place, place + parts[1].length()), parts[1]);
            checks.due("ARGS of " + i, house.point(i, 2), Integer.parseInt(parts[2]));
            checks.due("where " + i, house.point(i, 3), Integer.parseInt(parts[3]));
            checks.due("which " + i, house.point(i, 4), Integer.parseInt(parts[4]));
            checks.due("order of places at " + i, place > last ? 1 : 0, 1);
            last = place;
        }
        checks.dueThrow("point(-1, 0)", () -> house.point(-1, 0), OUT);
        checks.dueThrow("point(14, 0)", () -> house.point(14, 0), OUT);
        checks.dueThrow("point(0, -1)", () -> house.point(0, -1), OUT);
        checks.dueThrow("point(0, 5)", () -> house.point(0, 5), OUT);
        checks.dueThrow("point(most, 0)", () -> house.point(Integer.MAX_VALUE, 0), OUT);
    }

    private static String ordered(WeaveHouse house) {
        StringBuilder all = new StringBuilder();
        for (int k = 0; k < house.count(3); k++) {
            all.append(house.ordered(k)).append(' ');
        }
        return all.toString().trim();
    }

    private static void order(Checks checks) {
        String aspects = "aspect P { before () catch { } around () catch { } } aspect Q { behind () catch { } } aspect R { } "
                + "aspect S { before () catch { } } aspect T { before () catch { } before () catch { } } ";
        checks.due("no order", ordered(Checks.compiled(aspects)), "0 1 2 3 4 5");
        checks.due("one order", ordered(Checks.compiled(aspects + "order T, R, P;")), "4 5 0 1 2 3");
        checks.due("two orders", ordered(Checks.compiled("order S; " + aspects + "order T, Q;")), "3 4 5 2 0 1");
        WeaveHouse house = Checks.compiled(aspects);
        checks.dueThrow("ordered(-1)", () -> house.ordered(-1), OUT);
        checks.dueThrow("ordered(6)", () -> house.ordered(6), OUT);
    }

    private static void above(Checks checks) {
        WeaveHouse house = Checks.compiled("class A under C { } class B { } class C { } aspect P { in C under B; }");
        checks.due("above A", house.above(0), 2);
        checks.due("above B", house.above(1), WeaveHouse.NONE);
        checks.due("above C", house.above(2), 1);
        checks.dueThrow("above(-1)", () -> house.above(-1), OUT);
        checks.dueThrow("above(3)", () -> house.above(3), OUT);
    }

    /** What an earlier text told is gone. */
    private static void again(Checks checks) {
        WeaveHouse house = Checks.compiled("class A { field x; method f() { } } class B under A { } aspect P { field n; "
                + "pick p() = catch; before () p() { } warn run \"f\"; } order P; main { try { } catch e { } }");
        house.wipe();
        Checks.feed(house, "class C { method g() { } }");
        checks.due("compile", house.compile(), 1);
        int[] wanted = {1, 1, 0, 0, 1, 0, 0};
        for (int what = 0; what <= 6; what++) {
            checks.due("count(" + what + ") of the later text", house.count(what), wanted[what]);
        }
        checks.due("above", house.above(0), -1);
        checks.due("begin without main", house.begin(false), 0);
        WeaveHouse often = Checks.fed("class A { method f() { try { throw 1; } catch e { return e; } } } main { let a = new A(); print a.f() + 1; } "
                + "aspect P { pick p(o) = target(o) and (call \"f\" or get \"x\") and args(); before (o) p(o) { print o is A; } }");
        for (int i = 0; i < 400; i++) {
            checks.due("compile " + i, often.compile(), 4);
        }
        often.begin(true);
        often.run(2000);
        checks.due("THE OUTPUT behind many compiles", Checks.output(often), "1 2");
        often.wipe();
        Checks.feed(often, "class C { method g() { return 1 / 0; } } main { let b = new C(); print b; print b.g(); }");
        checks.due("compile of another text behind them", often.compile(), 3);
        often.begin(false);
        often.run(2000);
        checks.due("THE OUTPUT of another text", Checks.output(often), "#1 failed -6");
        checks.dueThrow("held of an earlier aspect", () -> house.held(0, 0, 0, 0), OUT);
    }
}
