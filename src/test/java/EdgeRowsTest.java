/** What is told in full, up to the last row, and what an earlier TEXT or RUN leaves: nothing. */
public final class EdgeRowsTest {
    private static final String SIX = "a, b, c, d, e, f";
    private static final String TRY = "try { } catch c { } ";

    public static void main(String[] args) {
        Checks checks = new Checks("EdgeRowsTest");
        anyNumberOfPoints(checks);
        flowsAnew(checks);
        namesAnew(checks);
        runAnew(checks);
        firstClassBelow(checks);
        argsBehindArgs(checks);
        sixParameters(checks);
        sixUndone(checks);
        parametersOfAll(checks);
        fieldsOfAllAspects(checks);
        manyTries(checks);
        checks.end();
    }

    /** What is known of a pick at the first POINT does not hang on how many POINTS there are. */
    private static void anyNumberOfPoints(Checks checks) {
        for (int n = 1; n <= 70; n++) {
            WeaveHouse house = Checks.compiled("aspect P { before () get \"a\" { } pick q() = get \"a\"; before () q() { } warn not q(); warn q(); } main { print none"
                    + Checks.times(n, ".a") + "; }");
            for (int i = 0; i < n; i++) {
                checks.due("advice 0 at POINT " + i + " of " + n, house.meets(0, i, 0), 1);
                checks.due("advice 1 at POINT " + i + " of " + n, house.meets(1, i, 0), 1);
            }
            checks.due("findings of " + n, house.count(6), n);
            checks.due("the first finding of " + n, house.finding(0, 0), 1);
        }
    }

    /** A flow that is never so, behind texts in which all was always so. */
    private static void flowsAnew(Checks checks) {
        WeaveHouse house = new WeaveHouse();
        for (int n = 1; n <= 40; n++) {
            house.wipe();
            Checks.feed(house, "aspect P { before () get \"a\" { } before () get \"a\" { } } main { print none" + Checks.times(40, ".a") + "; }");
            checks.due("POINTS before " + n, house.compile(), 40);
            house.wipe();
            Checks.feed(house, "aspect P { before () flow(catch) { } warn flow(catch); } main { print none" + Checks.times(n, ".a") + "; }");
            checks.due("POINTS", house.compile(), n);
            for (int i = 0; i < n; i++) {
                checks.due("flow(catch) at " + i + " of " + n, house.meets(0, i, 0), 0);
            }
            checks.due("findings of " + n, house.count(6), 0);
        }
    }

    /** init, main and advice are themselves in each text. */
    private static void namesAnew(Checks checks) {
        String text = "class A { method init(n) { print n; } } aspect P { before () within \"P.advice\" { print 2; } before () within \"main\" and make \"A\" { print none == 1; let a = new A(3); } "
                + "before () within \"*.init\" and run \"*\" { print 4; } } main { let a = new A(1); }";
        WeaveHouse house = new WeaveHouse();
        for (int i = 0; i < 4; i++) {
            house.wipe();
            Checks.feed(house, i % 2 == 0 ? text : "class main2 { method x() { } } " + text);
            checks.due("POINTS of " + i, house.compile() > 0 ? 1 : 0, 1);
            house.begin(i > 1);
            checks.due("how it ends", house.run(2000), 0);
            checks.due("THE OUTPUT of " + i, Checks.output(house), "0 2 4 3 4 1");
        }
    }

    /** POINTS that a former RUN had reached and not left are not under way in the next one. */
    private static void runAnew(Checks checks) {
        WeaveHouse house = Checks.compiled("class A { field x; method m() { self.n(); } method n() { print 1; } } "
                + "aspect P { before () get \"x\" and flow(call \"m\") { print 7; } before () get \"x\" and flow(run \"n\") { print 8; } } main { let a = new A(); let b = a.x; a.m(); }");
        for (int steps = 1; steps <= 5; steps++) {
            for (int woven = 0; woven < 2; woven++) {
                house.begin(woven == 0);
                house.run(steps);
                house.begin(woven == 1);
                checks.due("behind " + steps + " STEPS", house.run(2000), 0);
                checks.due("THE OUTPUT behind " + steps + " STEPS", Checks.output(house), "1");
            }
        }
    }

    /** The class that is told first, below the one in whose method the POINT stands. */
    private static void firstClassBelow(Checks checks) {
        String text = "class A under B { } class B { method m() { } } class C { } aspect P { before () self(%) and run \"m\" { print 1; } } main { new B().m(); new A().m(); }";
        String[] cases = {"A", "2", "1", "B", "1", "1 1", "C", "0", ""};
        for (int k = 0; k < cases.length; k += 3) {
            String one = text.replace("%", cases[k]);
            checks.due(one, "" + Checks.compiled(one).meets(0, 0, 0), cases[k + 1]);
            checks.dueOutput(one, cases[k + 2]);
        }
    }

    /** ARGS without classes are known, whatever stands in the args behind them. */
    private static void argsBehindArgs(Checks checks) {
        String text = "class A { method m(v) { } } aspect P { before () args(*) and call \"m\" { } before () args(A) and call \"m\" { } before (v) args(v) and call \"m\" { } before () args(A) and call \"m\" { } } main { new A().m(1); }";
        WeaveHouse house = Checks.compiled(text);
        String[] wanted = {"1/0", "2/1", "1/0", "2/1"};
        for (int a = 0; a < 4; a++) {
            checks.due("advice " + a, house.meets(a, 2, 0) + "/" + house.meets(a, 2, 1), wanted[a]);
        }
    }

    /** A parameter is NONE until it is bound, at each POINT, whatever it was bound to at the one before. */
    private static void sixParameters(Checks checks) {
        for (String name : SIX.split(", ")) {
            String text = "class A { method m(" + SIX + ") { } } aspect P { before (" + SIX + ") call \"m\" and if (" + name + " == none) and args(" + SIX + ") { print " + name + "; } } "
                    + "main { let o = new A(); o.m(1, 2, 3, 4, 5, 6); o.m(11, 12, 13, 14, 15, 16); }";
            int k = SIX.indexOf(name) / 3 + 1;
            checks.dueOutput(text, k + " 1" + k);
            checks.dueOutput(text.replace("call \"m\" and if (" + name + " == none) and args(" + SIX + ")", "q(" + SIX + ")")
                    .replace("aspect P { ", "aspect P { pick q(" + SIX + ") = call \"m\" and if (" + name + " == none) and args(" + SIX + "); "), k + " 1" + k);
        }
    }

    /** What the first side of an or bound is undone, of each of six parameters. */
    private static void sixUndone(Checks checks) {
        for (String name : SIX.split(", ")) {
            String all = "args(" + SIX + ")";
            String p = "call \"m\" and (" + all + " and if (0) or if (" + name + " == none) and " + all + ")";
            String text = "class A { method m(" + SIX + ") { } } aspect P { before (" + SIX + ") " + p + " { print " + name + "; } } main { new A().m(1, 2, 3, 4, 5, 6); }";
            checks.dueOutput(text, "" + (SIX.indexOf(name) / 3 + 1));
        }
    }

    /** 24 advice at each of 40 bodies, twelve of them with six parameters. */
    private static void parametersOfAll(Checks checks) {
        String text = "class A { method m(a, b, c, d, e, n) { if n < 39 { self.m(n, n, n, n, n, n + 1); } } } aspect P { field sum; "
                + "pick q(" + SIX + ") = run \"m\" and args(" + SIX + "); pick r(f) = run \"m\" and args(*, *, *, *, *, f); before () make \"A\" { sum = 0; } "
                + Checks.times(12, "before (" + SIX + ") q(" + SIX + ") { sum = sum + f; } ") + Checks.times(10, "before (f) r(f) { sum = sum + f; } ")
                + "before (f) r(f) { if f == 39 { print sum; } } } main { new A().m(0, 0, 0, 0, 0, 0); }";
        checks.dueOutput(text, "" + 22 * 39 * 40 / 2);
    }

    /** 8 aspects with 10 fields each, all of them set. */
    private static void fieldsOfAllAspects(Checks checks) {
        StringBuilder text = new StringBuilder();
        for (int a = 0; a < 8; a++) {
            text.append("aspect P").append(a).append(" { ").append(Checks.times(10, "field f#; "))
                    .append("before () make \"A\" { ").append(a < 7 ? "f9 = " + a + ";" : Checks.times(10, "f# = 7#;")).append(" } } ");
        }
        WeaveHouse house = Checks.done("class A { } " + text + "main { new A(); }", true);
        for (int a = 0; a < 8; a++) {
            for (int i = 0; i < 10; i++) {
                String wanted = a == 7 ? "7" + i : i == 9 ? "" + a : "none";
                checks.due("field " + i + " of " + a, Checks.value(house.held(a, 0, i, 0), house.held(a, 0, i, 1)), wanted);
            }
        }
        checks.dueFault("class A { } " + text.toString().replaceFirst("f9; before \\(\\) make \"A\" \\{ f9 = 6;", "f9; before () make \"A\" { ^g = 6;") + "main { }", 5);
    }

    /** 117 S that try, nearly as many as 900 TOKENS hold; the last of them catches. */
    private static void manyTries(Checks checks) {
        String methods = Checks.times(10, "method m#() { " + TRY.repeat(10) + "} ") + "method k() { " + TRY.repeat(7) + "} ";
        checks.dueOutput("class A { " + methods + "} main { " + TRY.repeat(9) + "try { throw 1; } catch c { print c; } }", "1");
    }
}
