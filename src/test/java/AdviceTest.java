/** Promises 13, 14, 17 and 19 for advice: what is held, what is done, TESTS, ROWS. */
public final class AdviceTest {
    private static final String OUT = "IndexOutOfBoundsException";
    private static final String A = "class A { field x; method f(a) { print a; return a + 1; } method g() { throw 9; } } ";

    public static void main(String[] args) {
        Checks checks = new Checks("AdviceTest");
        before(checks);
        behind(checks);
        around(checks);
        going(checks);
        orderOfAll(checks);
        everyKind(checks);
        binding(checks);
        conditions(checks);
        types(checks);
        flows(checks);
        eachObject(checks);
        notEntered(checks);
        tests(checks);
        rows(checks);
        checks.end();
    }

    private static void due(Checks checks, String advice, String main, String wanted) {
        checks.dueOutput(A + "aspect P { field n; field m; " + advice + " } main { let a = new A(); " + main + " }", wanted);
    }

    private static void before(Checks checks) {
        due(checks, "before () call \"f\" { print 1; return 5; print 2; }", "print a.f(7);", "1 7 8");
        due(checks, "before () call \"f\" { throw 3; }", "print a.f(7);", "failed 3");
        due(checks, "before () call \"f\" { print 1 / 0; }", "try { a.f(7); } catch e { print e; }", "-6");
        due(checks, "before () call \"f\" { try { throw 3; } catch e { print e; } }", "print a.f(7);", "3 7 8");
        due(checks, "before (v) args(v) and call \"f\" { v = 100; print v; }", "print a.f(7);", "100 7 8");
        due(checks, "before () call \"h\" { print 1; }", "a.h();", "1 failed -3");
        due(checks, "before () call \"f\" { print 1; }", "none.f(1);", "1 failed -1");
    }

    private static void behind(Checks checks) {
        due(checks, "behind () call \"f\" { print 1; return 5; }", "print a.f(7);", "7 1 8");
        due(checks, "behind () call \"g\" { print 1; }", "print a.g();", "1 failed 9");
        due(checks, "behind () give r call \"f\" { print r; r = 0; }", "print a.f(7);", "7 8 8");
        due(checks, "behind () give r call \"g\" { print r; }", "print a.g();", "failed 9");
        due(checks, "behind () fail r call \"g\" { print r; }", "print a.g();", "9 failed 9");
        due(checks, "behind () fail r call \"f\" { print r; }", "print a.f(7);", "7 8");
        due(checks, "behind (t, v) give r target(t) and args(v) and call \"f\" { print t; print v; print r; }", "a.f(7);", "7 #1 7 8");
        due(checks, "behind () call \"*\" { throw 4; }", "try { a.f(1); } catch e { print e; } a.g();", "1 4 failed 4");
        due(checks, "behind () fail r call \"g\" { throw r + 1; }", "a.g();", "failed 10");
        due(checks, "behind () call \"h\" { print 1; }", "a.h();", "1 failed -3");
    }

    private static void around(Checks checks) {
        due(checks, "around () call \"f\" { print 1; return 5; }", "print a.f(7);", "1 5");
        due(checks, "around () call \"f\" { }", "print a.f(7);", "none");
        due(checks, "around () call \"f\" { return go; }", "print a.f(7);", "7 8");
        due(checks, "around () call \"f\" { return go + go(1) + go; }", "print a.f(7);", "7 1 7 18");
        due(checks, "around (v) call \"f\" and args(v) { return go(v * 2) + 100; }", "print a.f(7);", "14 115");
        due(checks, "around (v) call \"f\" and args(v) { v = 50; return go; }", "print a.f(7);", "7 8");
        due(checks, "around () call \"f\" { return go(); }", "print a.f(7);", "failed -4");
        due(checks, "around () call \"f\" { try { go(1, 2); } catch e { print e; } return go(3); }", "print a.f(7);", "-4 3 4");
        due(checks, "around () call \"g\" { try { go; } catch e { return e * 2; } }", "print a.g();", "18");
        due(checks, "around () call \"f\" { throw 3; }", "print a.f(7);", "failed 3");
        due(checks, "around () call \"h\" { return 3; }", "print a.h(); print none.h(1, 2);", "3 3");
        due(checks, "around () call \"f\" { if go > 5 { go.x = 1; } }", "a.f(7);", "7 7 failed -1");
    }

    /** ARGS of a go are those of the REST; what was bound stays bound. */
    private static void going(Checks checks) {
        due(checks, "around (v) call \"f\" and args(v) { print v; return go(v + 1); } "
                + "around (v) call \"f\" and args(v) { print v; return go; } before (v) call \"f\" and args(v) { print v; }",
                "print a.f(1);", "1 1 1 2 3");
        due(checks, "around () call \"f\" { return go(5) * 10 + go; } around () call \"f\" { return go; } behind () call \"f\" { print 0; }",
                "print a.f(1);", "5 0 1 0 62");
        due(checks, "around () run \"f\" { return go(4); } around () call \"f\" { return go(3); } "
                + "before (v) run \"f\" and args(v) { print v; }", "print a.f(1);", "3 4 5");
        due(checks, "around () call \"f\" { go; go; return 0; } before () call \"f\" { n = n == none or n + 1; print n; }",
                "print a.f(1);", "1 1 1 1 0");
    }

    private static void orderOfAll(Checks checks) {
        String four = "before () call \"f\" { print 1; } behind () call \"f\" { print 2; } around () call \"f\" { print 3; let r = go; print 4; "
                + "return r; } behind () give r call \"f\" { print 5; }";
        due(checks, four, "print a.f(7);", "1 3 7 5 4 2 8");
        String aspects = A + "aspect P { before () call \"f\" { print 1; } } aspect Q { before () call \"f\" { print 2; } } "
                + "aspect R { before () call \"f\" { print 3; } } main { new A().f(0); } ";
        checks.dueOutput(aspects, "1 2 3 0");
        checks.dueOutput(aspects + "order R;", "3 1 2 0");
        checks.dueOutput(aspects + "order R, Q; order P;", "3 2 1 0");
        // all is held before anything is done
        due(checks, "before () call \"f\" { n = 1; } before () call \"f\" and if (n) { print 5; }", "a.f(1); a.f(2);", "1 5 2");
        // the method's own RUN stands within the CALL
        due(checks, "behind () run \"f\" { print 1; } behind () call \"f\" { print 2; } before () call \"f\" { print 3; } "
                + "before () run \"f\" { print 4; }", "a.f(0);", "3 4 0 1 2");
    }

    private static void everyKind(Checks checks) {
        due(checks, "around (v) set \"x\" and args(v) { go(v + 1); return 7; }", "a.x = 5; print a.x;", "6");
        due(checks, "around () get \"x\" { return 3; }", "a.x = 5; print a.x; print none.x;", "3 3");
        due(checks, "around (o) get \"x\" and target(o) { print o; return go + 1; }", "a.x = 5; print a.x;", "#1 6");
        due(checks, "around (o) set \"x\" and target(o) { o.x = go; }", "a.x = 5;", "failed -7");
        due(checks, "around () make \"A\" { return 3; }", "print a; print new A(1, 2);", "3 3");
        due(checks, "around () make \"A\" { go; return go; }", "print a;", "#2");
        due(checks, "behind () give r make \"A\" { print r; }", "print a;", "#1 #1");
        due(checks, "around (e) catch and args(e) { return e + 1; }", "try { throw 4; } catch e { print e; }", "5");
        due(checks, "around () catch { return go(8); }", "try { throw 4; } catch e { print e; }", "8");
        due(checks, "before () catch { throw 6; }", "try { try { throw 4; } catch e { print e; } } catch f { print f; }", "failed 6");
        due(checks, "around () catch and if (n == none) { n = 1; throw 6; }",
                "try { try { throw 4; } catch e { print e; } print 1; } catch f { print f; }", "6");
        checks.dueOutput("class B { method init(a) { print a; } } aspect P { around () make \"B\" { return go(5); } "
                + "around () run \"init\" { go(7); return 1; } } main { print new B(4); }", "7 #1");
        checks.dueOutput("class B { method init() { } } aspect P { around () run \"init\" { return 1; } } main { print new B(); }", "#1");
    }

    private static void binding(Checks checks) {
        due(checks, "before (s, t) run \"f\" and self(s) and target(t) { print s; print t; }", "a.f(1);", "#1 #1 1");
        due(checks, "before (s) call \"f\" and self(s) { print s; }", "a.f(1);", "1");
        due(checks, "before (v) call \"*\" and (args(v) or target(v)) { print v; }", "a.f(1); try { a.g(); } catch e { }", "1 1 #1");
        due(checks, "pick p(o, v) = target(o) and args(v); before (v, o) p(o, v) and call \"f\" { print o; print v; }", "a.f(1);", "#1 1 1");
        due(checks, "pick p(o) = target(o) and if (o is A); before (x) p(x) and if (x != none) and call \"f\" { print x; }", "a.f(1);", "#1 1");
        due(checks, "pick p(o) = self(o); before (x) p(x) and run \"f\" { print x; }", "a.f(1);", "#1 1");
        due(checks, "pick p(v, o) = args(v) and self(o); before (o, v) run \"f\" and p(v, o) { print o; print v; }", "a.f(1);", "#1 1 1");
        // not bound yet, or undone, is NONE
        due(checks, "before (o) if (o == none) and call \"f\" and target(o) { print o; }", "a.f(1);", "#1 1");
        due(checks, "before (o) call \"f\" and (target(o) and if (0) or if (o == none) and target(o)) { print o; }", "a.f(1);", "#1 1");
        due(checks, "behind () give r call \"f\" and if (r == none) { print r; }", "a.f(1);", "1 2");
        // a parameter that has the NAME of a class is the parameter
        due(checks, "before (A) call \"f\" and args(A) { print A; }", "a.f(1);", "1 1");
        due(checks, "before (v, w) set \"x\" and args(v) and target(w) { print v; print w; }", "a.x = a;", "#1 #1");
        due(checks, "before () args(A) { print 1; } before () args(*) and call \"*\" { print 2; }", "a.f(1); a.x = a;", "2 1 1");
    }

    private static void conditions(Checks checks) {
        due(checks, "before () call \"f\" and if (1 / 0) { print 1; } before () call \"f\" and not if (1 / 0) { print 2; }", "a.f(3);", "2 3");
        due(checks, "before () call \"f\" and if (-none) { print 1; } before () call \"f\" and if (none) { print 2; }", "a.f(3);", "3");
        due(checks, "before (v) args(v) and call \"f\" and if (v > 1 and v != 4 or v % 2 * 2 == n) { print 0; }",
                "a.f(1); a.f(2); a.f(4);", "1 0 2 4");
        due(checks, "before () call \"f\" { if n == none { n = 0; } n = n + 1; } before () call \"f\" and if (n >= 2) { print n; }",
                "a.f(0); a.f(0); a.f(0);", "0 0 3 0");
    }

    private static void types(Checks checks) {
        String two = "class B under A { method f(a) { return 0; } } class C { method f(a) { return 0; } } " + A;
        String main = " main { new A().f(1); new B().f(2); new C().f(3); none.f(4); }";
        String p = "aspect P { before (v) args(v) and # { print v; } }";
        String[] cases = {"call \"f\"", "1 1 2 3 4", "call \"A.f\"", "1 1", "call \"A+.f\"", "1 1 2", "call \"*.f\"", "1 1 2 3",
                "run \"f\"", "1 1 2 3", "run \"A.f\"", "1 1", "run \"A+.f\"", "1 1 2", "run \"B.*\"", "1 2",
                "run \"*\" and self(A)", "1 1 2", "call \"*\" and target(B)", "1 2", "call \"*\" and not target(A)", "1 3 4",
                "call \"*\" and self(A)", "1", "run \"*\" and target(C)", "1 3", "call \"*\" and within \"main\"", "1 1 2 3 4"};
        for (int i = 0; i < cases.length; i += 2) {
            checks.dueOutput(two + p.replace("#", cases[i]) + main, cases[i + 1] + " failed -1");
        }
    }

    private static void flows(Checks checks) {
        String k = "class K { method a() { self.c(); } method b() { self.c(); } method c() { print 1; } } main { let k = new K(); k.a(); k.b(); k.c(); } ";
        checks.dueOutput(k + "aspect P { before () run \"c\" and flow (call \"a\") { print 2; } }", "2 1 1 1");
        checks.dueOutput(k + "aspect P { before () run \"c\" and not flow (within \"K.a\" or run \"b\") { print 2; } }", "1 1 2 1");
        checks.dueOutput(k + "aspect P { before () flow (run \"b\") and call \"*\" { print 2; } }", "1 2 1 1");
        // its own POINT, too; not what is held before the POINT is reached, nor when it is left
        checks.dueOutput(k + "aspect P { before () run \"c\" and flow (run \"c\") { print 2; } }", "2 1 2 1 2 1");
        // advice behind a POINT is done before it is left
        checks.dueOutput(k + "aspect P { behind (x) call \"a\" and target(x) { x.c(); } before () run \"c\" and flow (call \"a\") { print 2; } }",
                "2 1 2 1 1 1");
        // with SELF, TARGET, ARGS as it was reached
        checks.dueOutput("class K { method f(v) { self.c(); } method c() { } } main { new K().f(1); new K().f(new K()); } "
                + "aspect P { around () call \"f\" { return go(0); } before () run \"c\" and flow (call \"f\" and args(K)) { print 2; } "
                + "before () run \"c\" and flow (run \"f\" and args(K)) { print 3; } }", "2");
        checks.dueOutput("class K { method f() { throw 1; } method c() { } } main { try { new K().f(); } catch e { new K().c(); } } "
                + "aspect P { before () call \"c\" and flow (call \"f\") { print 2; } before () call \"c\" and flow (catch) { print 3; } }", "");
    }

    private static void eachObject(Checks checks) {
        String e = "class K { field v; method f() { } } aspect E each object { field n; "
                + "before () % { if n == none { n = 0; } n = n + 1; print n; } } main { let k = new K(); let l = new K(); # } ";
        String text = e.replace("%", "call \"f\"").replace("#", "k.f(); k.f(); l.f(); k.f();");
        checks.dueOutput(text, "1 2 1 3");
        WeaveHouse house = Checks.done(text, true);
        checks.due("held of 1", Checks.value(house.held(0, 1, 0, 0), house.held(0, 1, 0, 1)), "3");
        checks.due("held of 2", Checks.value(house.held(0, 2, 0, 0), house.held(0, 2, 0, 1)), "1");
        checks.dueThrow("held of 0", () -> house.held(0, 0, 0, 0), OUT);
        checks.dueThrow("held of 3", () -> house.held(0, 3, 0, 0), OUT);
        checks.dueThrow("held of -1", () -> house.held(0, -1, 0, 0), OUT);
        // without TARGET and SELF that are OBJECTS it is not asked; a MAKE has its SELF
        checks.dueOutput(e.replace("%", "make \"K\" or call \"f\"").replace("#", "try { none.f(); } catch x { print 9; }"), "9");
        checks.dueOutput("class K { method f() { print new K(); } } aspect E each object { field n; before () make \"K\" { n = 5; } } "
                + "main { new K().f(); }", "#2");
        // the fields that an if names are those of that OBJECT
        checks.dueOutput("class K { method f() { } } aspect E each object { field n; before () call \"f\" and if (n == none) { n = 1; print n; } } "
                + "main { let k = new K(); k.f(); k.f(); new K().f(); }", "1 1");
        house(checks);
    }

    private static void house(Checks checks) {
        WeaveHouse house = Checks.done("class K { method f() { } } aspect P { field a; field b; before () call \"f\" { b = 4; } } "
                + "aspect E each object { field c; } main { new K().f(); }", false);
        checks.due("held(0, 0, 0)", Checks.value(house.held(0, 0, 0, 0), house.held(0, 0, 0, 1)), "none");
        checks.due("held(0, 0, 1)", Checks.value(house.held(0, 0, 1, 0), house.held(0, 0, 1, 1)), "4");
        checks.due("held(1, 1, 0)", Checks.value(house.held(1, 1, 0, 0), house.held(1, 1, 0, 1)), "none");
        checks.dueThrow("held(0, 1, 0)", () -> house.held(0, 1, 0, 0), OUT);
        checks.dueThrow("held(0, 0, 2)", () -> house.held(0, 0, 2, 0), OUT);
        checks.dueThrow("held(0, 0, -1)", () -> house.held(0, 0, -1, 0), OUT);
        checks.dueThrow("held(2, 0, 0)", () -> house.held(2, 0, 0, 0), OUT);
        checks.dueThrow("held(-1, 0, 0)", () -> house.held(-1, 0, 0, 0), OUT);
        checks.dueThrow("held(0, 0, 0, 2)", () -> house.held(0, 0, 0, 2), OUT);
        checks.dueThrow("held(1, 1, 1)", () -> house.held(1, 1, 1, 0), OUT);
    }

    /** -7 when the BLOCK of an advice can't be entered, and no ROW then. */
    private static void notEntered(Checks checks) {
        String deep = "class A { method f(n) { if n > 0 { return self.f(n - 1); } return none.x; } } "
                + "aspect P { # () get \"x\" { return 5; } } main { try { print new A().f(39); } catch e { print e; } }";
        for (String form : new String[] {"before", "around", "behind"}) {
            String text = deep.replace("#", form);
            checks.dueOutput(text, "-7");
            checks.due("ROWS of " + text, Checks.done(text, false).told(3), 0);
            text = text.replace("39", "38");
            checks.dueOutput(text, form.equals("around") ? "5" : "-1");
            checks.due("ROWS of " + text, Checks.done(text, false).told(3), 1);
        }
        // an advice that advises itself
        due(checks, "before () call \"f\" { new A().f(1); }", "a.f(1);", "failed -7");
    }

    private static void dueTests(Checks checks, String text, int looking, int woven) {
        checks.due("TESTS looking: " + text, Checks.done(text, false).told(1), looking);
        checks.due("TESTS woven: " + text, Checks.done(text, true).told(1), woven);
    }

    private static void tests(Checks checks) {
        // POINTS that are reached: MAKE, CALL, RUN
        String k = "class K { method f() { } } class L under K { } main { new K().f(); } aspect P { field n; % }";
        dueTests(checks, k.replace("%", "before () call \"f\" { }"), 3, 0);
        dueTests(checks, k.replace("%", "before () call \"K.f\" { }"), 3, 1);
        dueTests(checks, k.replace("%", "before () call \"f\" and if (1) { }"), 4, 1);
        dueTests(checks, k.replace("%", "before () if (0) and call \"f\" { }"), 3, 1);
        dueTests(checks, k.replace("%", "before () if (1) or call \"f\" { }"), 3, 2);
        dueTests(checks, k.replace("%", "before () not (call \"f\" or make \"K\") { }"), 3 + 2, 0);
        dueTests(checks, k.replace("%", "before () target(K) and self(K) { }"), 3 + 2, 0);
        // self(L) is 2 at RUN only, as target(L) is; TARGET of CALL is 2 as well
        dueTests(checks, k.replace("%", "before () target(L) or self(L) { }"), 6, 3);
        dueTests(checks, k.replace("%", "pick p(o) = target(o) and call \"f\"; before (x) p(x) { }"), 3 + 2, 1);
        dueTests(checks, k.replace("%", "before () p() { } pick p() = if (n) or if (not n);"), 6, 6);
        // a flow is one, with those in it: MAKE 1 + 1; CALL 1 + 1; RUN 1 + 2 (this one, then the CALL)
        dueTests(checks, k.replace("%", "before () flow (call \"f\") { }"), 2 + 2 + 3, 2);
        dueTests(checks, k.replace("%", "before () flow (call \"K.f\" and if (0)) { }"), 2 + 3 + 4, 1 + 3 + 3);
        dueTests(checks, k.replace("%", "before () flow (if (n)) { }"), 2 + 2 + 3, 2 + 2 + 3);
        dueTests(checks, k.replace("%", "before () args() { } before () catch { } before () within \"main\" { }"), 9, 0);
        dueTests(checks, k.replace("P {", "P each object {").replace("%", "before () if (n) { }"), 2, 2);
        // POINTS of advice are held, too: CALL in it, and RUN
        dueTests(checks, k.replace("%", "before (x) target(x) and within \"main\" { x.f(); }"), 1 + 4 * 2, 1);
    }

    private static void rows(Checks checks) {
        // 0 RUN f, 1 MAKE, 2 CALL f
        String text = "class K { method f() { } } main { new K().f(); } aspect P { before () run \"f\" { } around () call \"f\" { go; go; } "
                + "behind () give r make \"K\" { } behind () fail r make \"K\" { } }";
        WeaveHouse house = Checks.done(text, false);
        checks.due("ROWS", Checks.rows(house), "2@1 1@2 0@0 0@0");
        checks.due("how many", house.told(3), 4);
        checks.dueThrow("row(-1)", () -> house.row(-1, 0), OUT);
        checks.dueThrow("row(4)", () -> house.row(4, 0), OUT);
        checks.dueThrow("row(0, 2)", () -> house.row(0, 2), OUT);
        checks.dueThrow("row(0, -1)", () -> house.row(0, -1), OUT);
        WeaveHouse many = Checks.done("main { let n = 0; while n < 305 { n = n + 1; try { throw 1; } catch e { } } } "
                + "aspect P { before () catch { } }", true);
        checks.due("many ROWS", many.told(3), 305);
        checks.due("the last that is kept", many.row(299, 0), 0);
        checks.dueThrow("row(300)", () -> many.row(300, 0), OUT);
        many.begin(false);
        checks.due("ROWS of the next RUN", many.told(3), 0);
        checks.due("TESTS of the next RUN", many.told(1), 0);
        checks.dueThrow("row(0) of the next RUN", () -> many.row(0, 0), OUT);
        // a ROW is made when the BLOCK is begun
        WeaveHouse slow = Checks.compiled("main { try { throw 1; } catch e { } } aspect P { before () catch { print 1; } }");
        slow.begin(false);
        slow.run(2);
        checks.due("ROWS before its first STEP", slow.told(3), 1);
        checks.due("bodies then", slow.told(6), 1);
        checks.due("values then", slow.told(2), 0);
    }
}
