/** Terms 6: ORDER, the REST, go, what an advice throws, aspects each object, as many advice and bodies as can be. */
public final class EdgeAdviceTest {
    private static final String A = "class A { field x; field y; method m(v) { print v; return v + 1; } method k(a, b, c, d, e, f) { print a; print b; print c; print d; print e; print f; return 0; } "
            + "method z() { throw 9; } } ";

    public static void main(String[] args) {
        Checks checks = new Checks("EdgeAdviceTest");
        beforeEdges(checks);
        behindEdges(checks);
        aroundEdges(checks);
        goArgs(checks);
        goWrong(checks);
        goOfEachKind(checks);
        theRest(checks);
        failuresThrough(checks);
        order(checks);
        allIsHeldFirst(checks);
        eachObject(checks);
        eachOwn(checks);
        mostBodies(checks);
        mostAdvice(checks);
        mostMakes(checks);
        rowsBegun(checks);
        begunAnew(checks);
        adviceOfAdvice(checks);
        catches(checks);
        hiddenFields(checks);
        checks.end();
    }

    private static void due(Checks checks, String advice, String main, String wanted) {
        checks.dueOutput(A + "aspect P { field n; field o; " + advice + " } main { let a = new A(); " + main + " }", wanted);
    }

    private static void beforeEdges(Checks checks) {
        due(checks, "before () call \"m\" { }", "print a.m(1);", "1 2");
        due(checks, "before () call \"m\" { return 7; }", "print a.m(1);", "1 2");
        due(checks, "before () call \"m\" { if 1 { return; } print 9; }", "print a.m(1);", "1 2");
        due(checks, "before () call \"m\" { while 1 { return 1 + 1; } }", "print a.m(1);", "1 2");
        due(checks, "before () call \"m\" { print 1 / 0; } before () call \"m\" { print 5; }", "try { a.m(1); } catch e { print e; } print 0;", "-6 0");
        due(checks, "before () call \"m\" { print 5; } before () call \"m\" { throw none; }", "try { a.m(1); } catch e { print e; } print 0;", "5 none 0");
        // it does not matter that the ACT can't be done
        due(checks, "before () call \"q\" { print 1; } before () get \"q\" { print 2; } before () set \"q\" { print 3; } before () make \"A\" and args(*) { print 4; }",
                "try { a.q(); } catch e { print e; } try { print a.q; } catch e { print e; } try { a.q = 1; } catch e { print e; } try { new A(1); } catch e { print e; }",
                "1 -3 2 -2 3 -2 4 -4");
        // all six ARGS are what they were behind its BLOCK
        due(checks, "before (a, b, c, d, e, f) call \"k\" and args(a, b, c, d, e, f) { a = 0; b = 0; c = 0; d = 0; e = 0; f = 0; new A().m(77); }", "a.k(1, 2, 3, 4, 5, 6);",
                "77 1 2 3 4 5 6");
    }

    private static void behindEdges(Checks checks) {
        due(checks, "behind () call \"m\" { return 7; }", "print a.m(1);", "1 2");
        due(checks, "behind () give r call \"m\" { r = 7; return r; }", "print a.m(1);", "1 2");
        due(checks, "behind () give r call \"m\" { print r; } behind () fail r call \"m\" { print 9; } behind () call \"m\" { print 8; }", "print a.m(1);", "1 8 2 2");
        due(checks, "behind () give r call \"z\" { print 7; } behind () fail r call \"z\" { print r; } behind () call \"z\" { print 8; }", "print a.z();", "8 9 failed 9");
        due(checks, "behind () give r set \"x\" { print r; }", "a.x = 5; print a.x;", "5 5");
        due(checks, "behind () give r get \"x\" { print r; }", "a.x = a.x;", "none");
        due(checks, "behind () give r get \"x\" { n = r; r = 0; print n; }", "a.x = 4; print a.x;", "4 4");
        due(checks, "behind () give r make \"A\" { print r; }", "print a;", "#1 #1");
        due(checks, "behind () give r run \"m\" { print r; } behind () give r call \"m\" { print 0 - r; }", "a.m(1);", "1 2 -2");
        due(checks, "behind () give r catch { print r; r = 6; }", "try { throw 4; } catch e { print e; }", "4 4");
        due(checks, "behind () fail r make \"A\" and args(*) { print r; }", "new A(1);", "-4 failed -4");
        // what it throws takes the place of a value, and of a failure
        due(checks, "behind () call \"m\" { throw 3; }", "print a.m(1);", "1 failed 3");
        due(checks, "behind () call \"z\" { throw 3; }", "print a.z();", "failed 3");
        due(checks, "behind () fail r call \"z\" { print 1 / 0; }", "print a.z();", "failed -6");
        due(checks, "behind () fail r call \"z\" { try { throw r + 1; } catch e { print e; } }", "print a.z();", "10 failed 9");
        // with a failure in the BLOCK of one behind, those before it have a failed REST
        due(checks, "behind () fail r call \"m\" { print r; } behind () give r call \"m\" { print 7; } behind () call \"m\" { throw 3; } behind () give r call \"m\" { print r; }",
                "a.m(1);", "1 2 3 failed 3");
    }

    private static void aroundEdges(Checks checks) {
        due(checks, "around () call \"m\" { }", "print a.m(1);", "none");
        due(checks, "around () call \"m\" { return; }", "print a.m(1);", "none");
        due(checks, "around () call \"m\" { go; }", "print a.m(1);", "1 none");
        due(checks, "around () call \"m\" { return go; }", "print a.m(1);", "1 2");
        due(checks, "around () call \"m\" { print go; return go * 10; }", "print a.m(1);", "1 2 1 20");
        due(checks, "around () call \"m\" { if go == 2 { return 0 - go; } return 9; }", "print a.m(1);", "1 1 -2");
        due(checks, "around () call \"m\" { let r = go; if r { r = r + 1; } return r; }", "print a.m(1);", "1 3");
        due(checks, "around () call \"m\" { while go < 2 { return 5; } return 6; }", "print a.m(1);", "1 6");
        due(checks, "around () call \"z\" { try { go; } catch e { return e; } return 1; }", "print a.z();", "9");
        due(checks, "around () call \"z\" { return 4; }", "print a.z();", "4");
        due(checks, "around () call \"m\" { throw 4; go; }", "print a.m(1);", "failed 4");
        due(checks, "around () call \"m\" { return go.f(); }", "print a.m(1);", "1 failed -1");
        due(checks, "around () call \"m\" { return go() + 1; }", "print a.m(1);", "failed -4");
        due(checks, "around () call \"m\" { return go is A; }", "print a.m(1);", "1 0");
        due(checks, "around () make \"A\" { return go is A; }", "print a;", "1");
        due(checks, "around () call \"m\" { return - go; }", "print a.m(1);", "1 -2");
        due(checks, "around () call \"m\" { return go + go + go + go + go + go; }", "print a.m(1);", "1 1 1 1 1 1 12");
        // go is worked where it stands: not behind a side that does not matter
        due(checks, "around () call \"m\" { return 1 or go; }", "print a.m(1);", "1");
        due(checks, "around () call \"m\" { return 0 and go; }", "print a.m(1);", "0");
        due(checks, "around () call \"m\" { return 0 or go; }", "print a.m(1);", "1 1");
    }

    /** With ( ) these ARGS are in the REST, without ( ) those with which this around was begun. */
    private static void goArgs(Checks checks) {
        due(checks, "around () call \"k\" { return go; }", "a.k(1, 2, 3, 4, 5, 6);", "1 2 3 4 5 6");
        due(checks, "around () call \"k\" { go(6, 5, 4, 3, 2, 1); return go; }", "a.k(1, 2, 3, 4, 5, 6);", "6 5 4 3 2 1 1 2 3 4 5 6");
        due(checks, "around (a, b, c, d, e, f) call \"k\" and args(a, b, c, d, e, f) { return go(f, e, d, c, b, a); }", "a.k(1, 2, 3, 4, 5, 6);", "6 5 4 3 2 1");
        due(checks, "around () call \"k\" { return go(6, 5, 4, 3, 2, 1); } around () call \"k\" { return go; }", "a.k(1, 2, 3, 4, 5, 6);", "6 5 4 3 2 1");
        due(checks, "around () call \"k\" { return go(6, 5, 4, 3, 2, 1); } before () call \"k\" { print 0; }", "a.k(1, 2, 3, 4, 5, 6);", "0 6 5 4 3 2 1");
        due(checks, "around () call \"k\" { return go(6, 5, 4, 3, 2, 1); } behind () call \"k\" { print 0; } around () run \"k\" { return go; }", "a.k(1, 2, 3, 4, 5, 6);", "6 5 4 3 2 1 0");
        due(checks, "around () call \"m\" { go(7); go(8); return go; } around () call \"m\" { go; go(5); return go; }", "print a.m(1);", "7 5 7 8 5 8 1 5 1 2");
        // what is bound is that of the POINT as it was reached
        due(checks, "around () call \"m\" { return go(7); } before (v) call \"m\" and args(v) { print v; } around (v) call \"m\" and args(v) { print v; return go; }", "print a.m(1);", "1 1 7 8");
        // the RUN is reached with the ARGS that the CALL has then
        due(checks, "around () call \"m\" { return go(7); } before (v) run \"m\" and args(v) { print 0 - v; } around (v) run \"m\" and args(v) { return go(v + 1); }", "print a.m(1);", "-7 8 9");
        // an argument may be a go, a call, or the making of another
        due(checks, "around (v) call \"m\" and args(v) and not flow (within \"P\") { return go(go(v + 1)); }", "print a.m(1);", "2 3 4");
        due(checks, "around (v) call \"m\" and args(v) and within \"main\" { return go(new A().m(v + 10)); }", "print a.m(1);", "11 12 13");
    }

    /** -4: another number of ARGS than there are, when they are worked. */
    private static void goWrong(Checks checks) {
        String[] cases = {"call \"m\"", "go()", "a.m(1);", "call \"m\"", "go(1, 2)", "a.m(1);", "call \"k\"", "go(1, 2, 3, 4, 5)", "a.k(1, 2, 3, 4, 5, 6);", "call \"z\"", "go(1)", "a.z();",
                "get \"x\"", "go(1)", "let q = a.x;", "set \"x\"", "go()", "a.x = 1;", "set \"x\"", "go(1, 2)", "a.x = 1;", "make \"A\" and args(*)", "go()", "new A(1);",
                "run \"m\"", "go()", "a.m(1);", "run \"z\"", "go(1)", "a.z();"};
        for (int i = 0; i < cases.length; i += 3) {
            due(checks, "around () " + cases[i] + " { print 5; return " + cases[i + 1] + "; }", cases[i + 2], "5 failed -4");
            due(checks, "around () " + cases[i] + " { try { " + cases[i + 1] + "; } catch e { print e; } return 3; } before () " + cases[i] + " { print 9; }", cases[i + 2] + " print 0;", "-4 0");
        }
        due(checks, "around () catch { return go(); }", "try { throw 1; } catch e { print e; }", "failed -4");
        due(checks, "around () catch { return go(1, 2); }", "try { throw 1; } catch e { print e; }", "failed -4");
        due(checks, "around () call \"m\" { return go(1, 1 / 0); }", "a.m(1);", "failed -6");
        // the right number, but the ACT wants another
        due(checks, "around () call \"m\" and args() { return go(); }", "a.m();", "failed -4");
        due(checks, "around () make \"A\" and args(*) { return go(4); }", "new A(1);", "failed -4");
        due(checks, "around () get \"x\" { return go(); } around () call \"z\" { return go(); }", "print a.x; a.z();", "none failed 9");
    }

    private static void goOfEachKind(Checks checks) {
        due(checks, "around () set \"x\" { print go(4); return 9; }", "a.x = 1; print a.x;", "4 4");
        due(checks, "around () set \"x\" { print go; return 9; }", "a.x = 1; print a.x;", "1 1");
        due(checks, "around () set \"x\" { return 9; }", "a.x = 1; print a.x;", "none");
        due(checks, "around () get \"x\" { return go; } around () get \"y\" { go; }", "a.x = 1; a.y = 2; print a.x; print a.y;", "1 none");
        due(checks, "around () make \"A\" { go; go; return go; }", "print a;", "#3");
        due(checks, "around () make \"A\" { return 5; }", "print a;", "5");
        due(checks, "around () run \"m\" { return go(5) * 2; }", "print a.m(1);", "5 12");
        due(checks, "around () run \"m\" { }", "print a.m(1);", "none");
        due(checks, "around () catch { return go; }", "try { throw 1; } catch e { print e; }", "1");
        due(checks, "around () catch { print go(7); return 8; }", "try { throw 1; } catch e { print e; }", "7 8");
        due(checks, "around () catch { }", "try { throw 1; } catch e { print e; }", "none");
        due(checks, "around () call \"m\" { return 6; }", "print none.m(1); print 5.m(); print a.m(1, 2, 3);", "6 6 6");
        due(checks, "around () get \"*\" { return 6; } around () set \"*\" { }", "print none.q; none.q = 1; print 0.x;", "6 6");
        checks.dueOutput("class B { field v; method init(p, q) { self.v = p * 10 + q; } } aspect P { around () make \"B\" { return go(3, 4); } } main { print new B(1, 2).v; }", "34");
        checks.dueOutput("class B { field v; method init(p, q) { self.v = p * 10 + q; } } aspect P { around () run \"init\" { go(5, 6); return 0; } } main { print new B(1, 2).v; }", "56");
        checks.dueOutput("class B { field v; method init(p, q) { self.v = p * 10 + q; } } aspect P { around () run \"init\" { } } main { let b = new B(1, 2); print b; print b.v; }", "#1 none");
    }

    /** Each has all behind it, and the ACT, as its REST. */
    private static void theRest(Checks checks) {
        String all = "before () % { print 1; } behind () % { print 2; } around () % { print 3; let r = go; print 4; return r; } behind () give r % { print 5; } before () % { print 6; } "
                + "behind () fail r % { print 7; } around () % { print 8; let r = go; print 9; return r; }";
        due(checks, all.replace("%", "call \"m\""), "print a.m(50);", "1 3 6 8 50 9 5 4 2 51");
        due(checks, all.replace("%", "get \"x\""), "print a.x;", "1 3 6 8 9 5 4 2 none");
        due(checks, all.replace("%", "call \"z\""), "print a.z();", "1 3 6 8 7 2 failed 9");
        due(checks, all.replace("%", "catch"), "try { throw 50; } catch e { print e; }", "1 3 6 8 9 5 4 2 50");
        due(checks, all.replace("%", "make \"A\""), "print 0;", "1 3 6 8 9 5 4 2 0");
        // an around that does not go leaves out all behind it, not those before it
        due(checks, "behind () call \"m\" { print 1; } before () call \"m\" { print 2; } around () call \"m\" { return 3; } before () call \"m\" { print 4; } behind () call \"m\" { print 5; }",
                "print a.m(0);", "2 1 3");
        // each go does it all again
        due(checks, "around () call \"m\" { go; return go; } before () call \"m\" { print 1; } behind () give r call \"m\" { print r; }", "print a.m(0);", "1 0 1 1 0 1 1");
    }

    private static void failuresThrough(Checks checks) {
        due(checks, "around () call \"*\" { try { return go; } catch e { throw e + 1; } } around () call \"*\" { try { return go; } catch e { throw e * 10; } }", "a.z();", "failed 91");
        due(checks, "around () call \"z\" { return go; } around () run \"z\" { try { go; } catch e { print e; } throw 5; }", "a.z();", "9 failed 5");
        due(checks, "behind () fail f call \"z\" { print f; } behind () fail f run \"z\" { print 0 - f; }", "try { a.z(); } catch e { print e; }", "-9 9 9");
        due(checks, "behind () fail f call \"z\" { print 1; } behind () fail f call \"z\" { print 2; } behind () give f call \"z\" { print 3; } behind () fail f call \"z\" { print 4; }",
                "try { a.z(); } catch e { print e; }", "4 2 1 9");
        due(checks, "behind () fail f call \"m\" { print f; } before () call \"m\" { throw 3; } behind () fail f call \"m\" { print 9; }", "a.m(1);", "3 failed 3");
        due(checks, "before () call \"m\" { throw none; }", "try { a.m(1); } catch e { print e == none; }", "1");
        checks.dueOutput("class A { method init() { throw 4; } } aspect P { behind () fail f make \"A\" { print f; } behind () fail f run \"init\" { print f + 1; } } main { new A(); }", "5 4 failed 4");
    }

    private static void order(Checks checks) {
        String aspects = "aspect P { before () set \"x\" { print 1; } around () set \"x\" { print 2; go; } } aspect Q { before () set \"x\" { print 3; } behind () set \"x\" { print 4; } } "
                + "aspect R { around () set \"x\" { print 5; go; print 6; } } class A { field x; } main { new A().x = 0; } ";
        checks.dueOutput(aspects, "1 2 3 5 6 4");
        checks.dueOutput(aspects + "order R;", "5 1 2 3 4 6");
        checks.dueOutput(aspects + "order Q, P;", "3 1 2 5 6 4");
        checks.dueOutput("order R; order Q; " + aspects, "5 3 1 2 4 6");
        checks.dueOutput("order R, P, Q; " + aspects, "5 1 2 3 4 6");
        checks.dueOutput("order Q; " + aspects + "order R, P;", "3 5 1 2 6 4");
    }

    /** All advice is held against a POINT before any of it is done. */
    private static void allIsHeldFirst(Checks checks) {
        due(checks, "before () call \"m\" and if (n == none) { n = 1; print 1; } before () call \"m\" and if (n == none) { print 2; } before () call \"m\" and if (n == 1) { print 3; }",
                "a.m(0); a.m(0);", "1 2 0 3 0");
        due(checks, "around () call \"m\" { n = 1; go; n = none; return go; } before () call \"m\" and if (n) { print 3; }", "a.m(0);", "0 0");
        due(checks, "around () call \"m\" { n = 1; return go; } before () run \"m\" and if (n) { print 3; }", "a.m(0);", "3 0");
    }

    /** Of an aspect each object: asked only if the TARGET, or else SELF, is an OBJECT, and for that one. */
    private static void eachObject(Checks checks) {
        String text = "class A { field x; method m(o) { o.k(); none.q(); } method k() { } } aspect Q { } "
                + "aspect E each object { field n; around (%) # and if (n == none) { n = 1; print @; } } main { let a = new A(); let b = new A(); ";
        String target = text.replace("%", "t").replace("#", "call \"k\" and target(t)").replace("@", "t");
        checks.dueOutput(target + "a.k(); a.k(); b.k(); b.k(); a.k(); }", "#1 #2");
        checks.dueOutput(target + "a.m(b); }", "#2 failed -1");
        String self = text.replace("%", "").replace("#", "call \"q\"").replace("@", "7");
        checks.dueOutput(self + "a.m(b); b.m(a); a.m(b); }", "7 7 failed -1");
        checks.dueOutput(self + "none.q(); }", "failed -1");
        String run = text.replace("%", "s").replace("#", "run \"k\" and self(s)").replace("@", "s");
        checks.dueOutput(run + "a.k(); a.k(); b.k(); }", "#1 #2");
        String set = text.replace("%", "v").replace("#", "set \"x\" and args(v)").replace("@", "v");
        checks.dueOutput(set + "a.x = 5; a.x = 6; b.x = 7; print a.x; print b.x; none.x = 3; }", "5 7 6 none failed -1");
        // MAKE has no TARGET: in a method SELF is the one, in main there is none
        checks.dueOutput("class A { method m() { new A(); } } aspect E each object { field n; before () make \"A\" { n = 1; print 1; } } main { let a = new A(); a.m(); }", "1");
        // the TARGET comes before SELF
        WeaveHouse house = Checks.done("class A { method m(o) { o.k(); 5.k(); } method k() { } } aspect Q { } aspect E each object { field n; before () call \"k\" { n = 4; } } "
                + "main { let a = new A(); let b = new A(); a.m(b); }", true);
        checks.due("held of the TARGET", house.held(1, 2, 0, 1), 4);
        // 5.k() has no OBJECT as its TARGET, so SELF is the one
        checks.due("held of SELF", house.held(1, 1, 0, 1), 4);
        checks.due("ROWS", house.told(3), 2);
        // in an advice there is no SELF
        checks.dueOutput("class A { field x; method m() { } } aspect P { before () call \"m\" { none.q(); } } aspect E each object { around () call \"q\" { print 1; } } main { new A().m(); }", "failed -1");
        // an aspect each object behind one that is not, and its if
        checks.dueOutput("class A { field x; } aspect P { field n; before () set \"x\" and if (n == none) { n = 2; print n; } } aspect E each object { field n; before () set \"x\" and if (n == none) "
                + "{ n = 3; print n; } } main { let a = new A(); a.x = 1; a.x = 2; new A().x = 3; try { none.x = 4; } catch e { print e; } }", "2 3 3 -1");
    }

    /** Each OBJECT has its own fields of each aspect, from its MAKE on. */
    private static void eachOwn(Checks checks) {
        String text = "class A { field x; method m() { } } aspect E each object { field n; field k; before () call \"m\" { if n == none { n = 0; } n = n + 1; } } "
                + "aspect F each object { field k; field n; before () call \"m\" { n = 10; } } main { let a = new A(); let b = new A(); a.m(); a.m(); b.m(); new A(); }";
        WeaveHouse house = Checks.compiled(text);
        for (int i = 0; i < 3; i++) {
            house.begin(i == 1);
            house.run(2000);
            StringBuilder all = new StringBuilder();
            for (int o = 1; o <= 3; o++) {
                for (int f = 0; f < 4; f++) {
                    all.append(Checks.value(house.held(f / 2, o, f % 2, 0), house.held(f / 2, o, f % 2, 1))).append(' ');
                }
            }
            checks.due("held in RUN " + i, all.toString(), "2 none none 10 1 none none 10 none none none none ");
        }
    }

    private static void dueDeep(Checks checks, String advice, int n, String wanted, int rows) {
        String text = "class A { method m(n) { if n > 1 { self.m(n - 1); } } } aspect P { " + advice + " } main { new A().m(" + n + "); print 1; }";
        checks.dueOutput(text, wanted);
        checks.due("ROWS of " + text, Checks.done(text, true).told(3), rows);
    }

    /** 40 bodies, those of advice among them: a before and a behind only while they last, an around as long as its go. */
    private static void mostBodies(Checks checks) {
        for (String kind : new String[] {"call", "run"}) {
            String p = kind + " \"m\" ";
            dueDeep(checks, "before () " + p + "{ }", 40, "1", 40);
            dueDeep(checks, "before () " + p + "{ }", 41, "failed -7", 40);
            dueDeep(checks, "behind () " + p + "{ }", 40, "1", 40);
            dueDeep(checks, "behind () " + p + "{ }", 41, "failed -7", 40);
            dueDeep(checks, "behind () give r " + p + "{ }", 40, "1", 40);
            dueDeep(checks, "behind () give r " + p + "{ }", 41, "failed -7", 0);
            dueDeep(checks, "behind () fail r " + p + "{ }", 40, "1", 0);
            dueDeep(checks, "behind () fail r " + p + "{ }", 41, "failed -7", 40);
            dueDeep(checks, "around () " + p + "{ return go; }", 20, "1", 20);
            dueDeep(checks, "around () " + p + "{ return go; }", 21, "failed -7", 20);
            dueDeep(checks, "around () " + p + "{ try { return go; } catch e { print e; } }", 21, "-7 1", 20);
        }
        // the 40th body may have one, that is the 41st body may not
        String text = "class A { field x; method m(n) { if n > 1 { self.m(n - 1); } else { self.x = 1; } } } aspect P { % } main { let a = new A(); a.m(#); print a.x; }";
        for (String form : new String[] {"before ()", "behind ()", "behind () give r"}) {
            checks.dueOutput(text.replace("%", form + " set \"x\" { print 2; }").replace("#", "39"), "2 1");
            checks.dueOutput(text.replace("%", form + " set \"x\" { print 2; }").replace("#", "40"), "failed -7");
        }
        checks.dueOutput(text.replace("%", "around () set \"x\" { print 2; }").replace("#", "39"), "2 none");
        checks.dueOutput(text.replace("%", "around () set \"x\" { print 2; }").replace("#", "40"), "failed -7");
        // the SET was done, then the behind could not be begun
        WeaveHouse house = Checks.done(text.replace("%", "behind () set \"x\" { print 2; }").replace("#", "40"), true);
        checks.due("the field", house.object(1, 0, 1), 1);
        checks.due("ROWS", house.told(3), 0);
        house = Checks.done(text.replace("%", "before () set \"x\" { print 2; }").replace("#", "40"), true);
        checks.due("the field", house.object(1, 0, 0), 0);
        checks.due("ROWS", house.told(3), 0);
        // it is a failure as any other
        checks.dueOutput(text.replace("%", "behind () fail f set \"x\" { print 9; } before () set \"x\" { print 2; }").replace("a.m(#);", "try { a.m(40); } catch e { print e; }"), "-7 none");
    }

    /** 24 behind at the CALL and at the RUN of each of 40 bodies. */
    private static void mostAdvice(Checks checks) {
        String text = "class A { method m(n) { if n > 1 { self.m(n - 1); } } } aspect P { " + Checks.times(24, "behind () call \"m\" or run \"m\" { } ") + "} main { new A().m(%); }";
        for (int woven = 0; woven < 2; woven++) {
            WeaveHouse house = Checks.done(text.replace("%", "40"), woven == 1);
            checks.due("how it stands", house.told(5), 0);
            checks.due("ROWS", house.told(3), 40 * 48);
            for (int i = 0; i < 300; i += 7) {
                checks.due("advice of ROW " + i, house.row(i, 0), 23 - i % 24);
                // POINTS: 0 RUN, 1 CALL in m, 2 MAKE, 3 CALL in main
                checks.due("POINT of ROW " + i, house.row(i, 1), i / 24 % 2 == 0 ? 0 : 1);
            }
            checks.due("STEPS", house.told(0), 1 + 40 + 39);
            house = Checks.done(text.replace("%", "41"), woven == 1);
            checks.due("how it stands with 41", house.told(5), 2);
            checks.due("failure with 41", house.failure(1), -7);
        }
        String before = "class A { field x; } aspect P { field n; " + Checks.times(12, "before () set \"x\" { if n == none { n = 0; } n = n + 1; } around () set \"x\" { return go; } ")
                + "} main { let a = new A(); a.x = 5; print a.x; }";
        checks.dueOutput(before, "5");
        WeaveHouse house = Checks.done(before, true);
        checks.due("before BLOCKS that were done", house.held(0, 0, 0, 1), 12);
        checks.due("ROWS of 24", house.told(3), 24);
        for (int i = 0; i < 24; i++) {
            checks.due("advice of ROW " + i, house.row(i, 0), i);
        }
        // each of 24 has six parameters of its own
        String six = "class A { method k(a, b, c, d, e, f) { } } aspect P { " + Checks.times(12, "before (a, b, c, d, e, f) args(a, b, c, d, e, f) { print f; } ")
                + "} main { new A().k(1, 2, 3, 4, 5, 6); }";
        checks.dueOutput(six, "6 6 6 6 6 6 6 6 6 6 6 6 6 6 6 6 6 6 6 6 6 6 6 6");
    }

    /** 40 MAKES within one another, all with as much advice as can be. */
    private static void mostMakes(Checks checks) {
        String text = "class A { field n; method init(n) { self.n = n; if n > 1 { new A(n - 1); } } } aspect P { " + Checks.times(24, "behind () make \"A\" or run \"init\" { } ")
                + "} main { print new A(%); }";
        checks.dueOutput(text.replace("%", "40"), "#1");
        checks.due("ROWS", Checks.done(text.replace("%", "40"), false).told(3), 40 * 48);
        checks.due("OBJECTS", Checks.done(text.replace("%", "40"), false).told(4), 40);
        checks.dueOutput(text.replace("%", "41"), "failed -7");
        checks.due("OBJECTS of 41", Checks.done(text.replace("%", "41"), false).told(4), 41);
    }

    /** A ROW is made when the BLOCK is begun, before its first STEP. */
    private static void rowsBegun(Checks checks) {
        String text = "class A { field x; } aspect P { % } main { let a = new A(); a.x = 1; print 0; }";
        String[] advice = {"before () set \"x\" { print 1; }", "around () set \"x\" { print 1; }", "behind () set \"x\" { print 1; }", "behind () give r set \"x\" { print 1; }"};
        for (String one : advice) {
            WeaveHouse house = Checks.compiled(text.replace("%", one));
            house.begin(true);
            house.run(1);
            checks.due("ROWS before it", house.told(3), 0);
            house.run(1);
            checks.due("ROWS of " + one, Checks.rows(house), "0@1");
            checks.due("bodies", house.told(6), 1);
            checks.due("STEPS", house.told(0), 2);
            checks.due("values", house.told(2), 0);
            house.run(1);
            checks.due("bodies behind it", house.told(6), 0);
            checks.due("values behind it", house.told(2), 1);
        }
        checks.due("ROWS of a BLOCK without S", Checks.done(text.replace("%", "before () set \"x\" { } behind () set \"x\" { } around () set \"x\" { }"), false).told(3), 3);
        checks.due("ROWS of what is not so", Checks.done(text.replace("%", "before () set \"y\" { } before () set \"x\" and if (0) { } behind () fail f set \"x\" { }"), false).told(3), 0);
        checks.due("ROWS of two go", Checks.rows(Checks.done(text.replace("%", "around () set \"x\" { go; go; } before () set \"x\" { } behind () set \"x\" { }"), true)), "0@1 1@1 2@1 1@1 2@1");
    }

    /** A RUN may begin while another stands deep, as often as one likes. */
    private static void begunAnew(Checks checks) {
        WeaveHouse house = Checks.compiled("class A { method m(n) { if n > 1 { self.m(n - 1); } } } aspect P { " + Checks.times(24, "behind () call \"m\" or run \"m\" { } ") + "} main { new A().m(40); print 7; }");
        for (int i = 0; i < 90; i++) {
            checks.due("begin " + i, house.begin(i % 2 == 0), 1);
            checks.due("run of " + i, house.run(79), 1);
            checks.due("bodies of " + i, house.told(6), 40);
        }
        house.begin(true);
        checks.due("run to the end", house.run(2000), 0);
        checks.due("THE OUTPUT", Checks.output(house), "7");
        checks.due("ROWS", house.told(3), 1920);
    }

    /** POINTS of advice are reached as all others are. */
    private static void adviceOfAdvice(Checks checks) {
        due(checks, "before () call \"m\" and within \"main\" { new A().m(5); } before (v) call \"m\" and args(v) and within \"P\" { print 0 - v; }", "a.m(1);", "-5 5 1");
        due(checks, "before () call \"m\" and within \"main\" { new A().x = 3; } around () set \"x\" and within \"P.advice\" { print 8; }", "a.m(1); a.x = 4; print a.x;", "8 1 4");
        due(checks, "before () call \"m\" { n = 1; } before () call \"m\" { o = n; } before () call \"m\" and if (o) { print o; }", "a.m(0); a.m(0);", "0 1 0");
        due(checks, "around () call \"m\" and not flow (within \"P\") { return new A().m(4); }", "print a.m(1);", "4 5");
        due(checks, "around () call \"m\" { try { go(none); } catch e { print e; } return 0; } before () catch { print 3; }", "a.m(1);", "none 3 -5");
        checks.dueOutput("class A { method m() { } } aspect P { before () make \"A\" and within \"main\" { new A(); } } main { print new A(); }", "#2");
    }

    private static void catches(Checks checks) {
        due(checks, "before (e) catch and args(e) { print e; } before (s) catch and self(s) { print s; }", "try { throw 1; } catch e { print e; }", "1 1");
        checks.dueOutput("class A { method m() { try { throw 1; } catch e { print e; } } } aspect P { before (s) catch and self(s) { print s; } before () catch and target(A) { print 9; } } main { new A().m(); }", "#1 1");
        // a failure of the POINT is not caught by the try of its own catch
        due(checks, "around () catch { throw 5; }", "try { throw 1; } catch e { print e; }", "failed 5");
        due(checks, "around () catch { throw 5; }", "try { try { throw 1; } catch e { print e; } } catch e { print e; }", "failed 5");
        due(checks, "around () catch and if (n == none) { n = 1; throw 5; }", "try { try { throw 1; } catch e { print e; } print 8; } catch e { print e; }", "5");
        // it is reached within none of what failed: all that was left
        checks.dueOutput("class A { method m() { throw 1; } } aspect P { before () catch and flow (call \"m\") { print 9; } before () catch and flow (catch) { print 3; } } "
                + "main { try { new A().m(); } catch e { print e; } }", "3 1");
        checks.dueOutput("class A { method m() { try { throw 1; } catch e { print e; } } } aspect P { before () catch and flow (call \"m\") { print 9; } } main { new A().m(); }", "9 1");
    }

    /** A LOCAL that is known hides the field of the aspect, from behind its let to the end of its BLOCK. */
    private static void hiddenFields(Checks checks) {
        due(checks, "before () call \"m\" { n = 5; let n = n + 1; print n; n = 9; } before () call \"m\" { print n; }", "a.m(0);", "6 5 0");
        due(checks, "before () call \"m\" { n = 5; if 1 { let n = 6; print n; n = 7; } print n; }", "a.m(0);", "6 5 0");
        due(checks, "before (n) call \"m\" and args(n) { print n; n = 8; print n; } before () call \"m\" { print n; }", "a.m(1);", "1 8 none 1");
        due(checks, "behind () give n call \"m\" { print n; n = 8; } behind () call \"m\" { print n; n = 3; }", "a.m(1); print 0; a.m(2);", "1 none 2 0 2 3 3");
        due(checks, "before () call \"m\" { n = 5; try { throw 4; } catch n { print n; n = 3; } print n; }", "a.m(0);", "4 5 0");
        due(checks, "before (n) call \"m\" and args(n) and if (n == 1) { print 7; } before () call \"m\" and if (n == none) { print 8; n = 1; }", "a.m(0); a.m(1);", "8 0 7 1");
        due(checks, "pick p(n) = args(n) and if (n == 1); pick q() = if (n == none); before (v) call \"m\" and p(v) and q() { print v; n = 1; }", "a.m(0); a.m(1); a.m(1);", "0 1 1 1");
        due(checks, "behind () give n call \"m\" and if (n == none) { print 6; } before () call \"m\" { n = 1; }", "a.m(0); a.m(0);", "0 6 0 6");
        // a method that an aspect tells a class has none of them, nor has another aspect
        checks.dueFault("class A { } aspect P { field n; in A method m() { print ^n; } }", 5);
        checks.dueFault("aspect P { field n; } aspect Q { before () catch { print ^n; } }", 5);
        checks.dueOutput("class A { field x; } aspect P { field n; before () set \"x\" { n = 1; } } aspect Q { field n; before () set \"x\" { print n; n = 2; print n; } } main { new A().x = 0; }", "none 2");
    }
}
