/** Promises 12 to 16: begin, run, told, output, failure; and what E and S do. */
public final class RunTest {
    private static final String OUT = "IndexOutOfBoundsException";
    private static final String ARGUMENT = "IllegalArgumentException";

    public static void main(String[] args) {
        Checks checks = new Checks("RunTest");
        beginning(checks);
        steps(checks);
        looks(checks);
        allUpToTheNext(checks);
        edges(checks);
        wholes(checks);
        truth(checks);
        objects(checks);
        failures(checks);
        order(checks);
        locals(checks);
        statements(checks);
        limits(checks);
        kept(checks);
        twice(checks);
        longRun(checks);
        checks.end();
    }

    private static void beginning(Checks checks) {
        checks.due("begin without main", Checks.compiled("class A { }").begin(false), 0);
        checks.due("begin of main without S", Checks.compiled("main { }").begin(true), 0);
        WeaveHouse house = Checks.compiled("main { print 1; }");
        checks.due("begin", house.begin(false), 1);
        for (int what = 0; what <= 6; what++) {
            checks.due("told(" + what + ") at the beginning", house.told(what), what == 5 ? 1 : 0);
        }
        checks.due("kind of no failure", house.failure(0), 0);
        checks.due("no failure", house.failure(1), 0);
    }

    private static void steps(Checks checks) {
        WeaveHouse house = Checks.compiled("main { let a = 1; if a { print 2; } else { print 3; } try { print 4; } catch e { } print 5; }");
        house.begin(false);
        // let, if, print 2, try, print 4, print 5
        int[] values = {0, 0, 1, 1, 2, 3};
        for (int i = 0; i < 6; i++) {
            checks.due("run(1) at " + i, house.run(1), i < 5 ? 1 : 0);
            checks.due("STEPS at " + i, house.told(0), i + 1);
            checks.due("values at " + i, house.told(2), values[i]);
        }
        checks.due("run behind the end", house.run(2000), 0);
        checks.due("STEPS behind the end", house.told(0), 6);
        checks.due("THE OUTPUT", Checks.output(house), "2 4 5");
        house.begin(true);
        checks.due("run(5)", house.run(5), 1);
        checks.due("run(5) again", house.run(5), 0);
        checks.due("STEPS in all", house.told(0), 6);
    }

    /** Of a while each look is a STEP, instead of the S; an else's IF is an S. */
    private static void looks(Checks checks) {
        WeaveHouse house = Checks.done("main { let a = 3; while a > 0 { a = a - 1; } }", false);
        checks.due("STEPS of a while", house.told(0), 1 + 4 + 3);
        house = Checks.done("main { if 0 { } else if 0 { } else if 1 { } else { print 1; } }", false);
        checks.due("STEPS of an if", house.told(0), 3);
        house = Checks.compiled("main { while 1 { } }");
        house.begin(false);
        checks.due("run of what has no end", house.run(2000), 1);
        checks.due("STEPS of what has no end", house.told(0), 2000);
        checks.due("run(1) of it", house.run(1), 1);
        checks.due("STEPS then", house.told(0), 2001);
    }

    private static void allUpToTheNext(Checks checks) {
        WeaveHouse house = Checks.compiled("class A { method e() { } method f() { return 1; } } "
                + "main { let a = new A(); print a.e(); print a.f() + 1; print 1 / 0; }");
        house.begin(false);
        checks.due("let", house.run(1), 1);
        checks.due("OBJECTS", house.told(4), 1);
        checks.due("print of a body without S", house.run(1), 1);
        checks.due("values", house.told(2), 1);
        checks.due("print begun", house.run(1), 1);
        checks.due("bodies", house.told(6), 1);
        checks.due("values still", house.told(2), 1);
        checks.due("return", house.run(1), 1);
        checks.due("bodies left", house.told(6), 0);
        checks.due("values then", house.told(2), 2);
        checks.due("the last STEP fails", house.run(1), 2);
        checks.due("told(5)", house.told(5), 2);
        checks.due("run behind it", house.run(1), 2);
        checks.due("failure kind", house.failure(0), 1);
        checks.due("failure", house.failure(1), -6);
        checks.due("STEPS", house.told(0), 5);
    }

    private static void edges(Checks checks) {
        WeaveHouse house = Checks.compiled("main { print none; print 0 - 5; throw 9; }");
        house.begin(false);
        checks.dueThrow("run(0)", () -> house.run(0), ARGUMENT);
        checks.dueThrow("run(2001)", () -> house.run(2001), ARGUMENT);
        checks.dueThrow("run(-1)", () -> house.run(-1), ARGUMENT);
        checks.dueThrow("told(-1)", () -> house.told(-1), OUT);
        checks.dueThrow("told(7)", () -> house.told(7), OUT);
        checks.dueThrow("output(0) of none", () -> house.output(0, 0), OUT);
        house.run(1);
        checks.due("output(0, 0)", house.output(0, 0), 0);
        checks.due("output(0, 1)", house.output(0, 1), 0);
        checks.dueThrow("output(1) of one", () -> house.output(1, 0), OUT);
        house.run(2000);
        checks.due("output(1, 0)", house.output(1, 0), 1);
        checks.due("output(1, 1)", house.output(1, 1), -5);
        checks.dueThrow("output(-1)", () -> house.output(-1, 0), OUT);
        checks.dueThrow("output(0, 2)", () -> house.output(0, 2), OUT);
        checks.dueThrow("output(0, -1)", () -> house.output(0, -1), OUT);
        checks.dueThrow("failure(2)", () -> house.failure(2), OUT);
        checks.dueThrow("failure(-1)", () -> house.failure(-1), OUT);
        checks.due("failure(1)", house.failure(1), 9);
        checks.dueThrow("run(0) behind the end", () -> house.run(0), ARGUMENT);
    }

    private static void print(Checks checks, String e, String wanted) {
        checks.dueOutput("class A { field x; } class B under A { } main { print " + e + "; }", wanted);
    }

    private static void wholes(Checks checks) {
        print(checks, "1 + 2 * 3", "7");
        print(checks, "(1 + 2) * 3", "9");
        print(checks, "10 - 3 - 2", "5");
        print(checks, "100 / 7 % 5 * 2", "8");
        print(checks, "-7 / 2", "-3");
        print(checks, "-7 % 3", "-1");
        print(checks, "7 % -3", "1");
        print(checks, "7 / -2", "-3");
        print(checks, "- - 3", "3");
        print(checks, "-2 + 5", "3");
        print(checks, "999999999 * 999999999", "" + 999999999 * 999999999);
        print(checks, "65536 * 32768", "-2147483648");
        print(checks, "-(65536 * 32768)", "-2147483648");
        print(checks, "65536 * 32768 / -1", "-2147483648");
        print(checks, "65536 * 32768 % -1", "0");
        print(checks, "65536 * 32768 - 1", "2147483647");
        print(checks, "1 < 2 == 1", "1");
        print(checks, "3 >= 3", "1");
        print(checks, "3 > 3", "0");
        print(checks, "3 <= 3", "1");
        print(checks, "2 >= 3", "0");
        print(checks, "3 < 3", "0");
        print(checks, "2*3-1/1%2", "5");
        print(checks, "2 <= 1", "0");
        print(checks, "2 < 3 < 2", "1");
        print(checks, "1 + 1 == 2 and 3 != 2 or 1 / 0", "1");
    }

    private static void truth(Checks checks) {
        print(checks, "not 0", "1");
        print(checks, "not none", "1");
        print(checks, "not -1", "0");
        print(checks, "not new A()", "0");
        print(checks, "not 1 == 0", "1");
        print(checks, "5 and 7", "1");
        print(checks, "none or 0", "0");
        print(checks, "none or new A()", "1");
        print(checks, "0 and 1 / 0", "0");
        print(checks, "7 or 1 / 0", "1");
        print(checks, "1 and 1 / 0", "failed -6");
        print(checks, "1 or 0 and 0", "1");
        print(checks, "0 and 1 or 1", "1");
        print(checks, "none == none", "1");
        print(checks, "none == 0", "0");
        print(checks, "none != 0", "1");
        print(checks, "new A() == new A()", "0");
        print(checks, "new A() != 1", "1");
        checks.dueOutput("class A { } main { let a = new A(); let b = a; print a == b; print a; print new A(); }", "1 #1 #2");
    }

    private static void objects(Checks checks) {
        print(checks, "new B() is A", "1");
        print(checks, "new A() is B", "0");
        print(checks, "new A() is A", "1");
        print(checks, "none is A", "0");
        print(checks, "1 is A", "0");
        print(checks, "not new B() is A", "0");
        print(checks, "- new B() is A", "-1");
        print(checks, "1 + new B() is A", "2");
        print(checks, "new B().x", "none");
        checks.dueOutput("class A { field x; method init(v) { self.x = v; } method get2() { return self.x + self.x; } } "
                + "class B under A { field x; method both() { return self.x; } method get3() { return self.get2() + self.x; } } "
                + "main { let b = new B(4); print b.x; print b.both(); print b.get2(); print b.get3(); }", "4 4 8 12");
        checks.dueOutput("class A { method f() { return self.g(); } method g() { return 1; } } "
                + "class B under A { method g() { return 2; } } main { print new A().f(); print new B().f(); }", "1 2");
        checks.dueOutput("class A { method init(a, b) { print a; print b; } } class B under A { } class C under B { method init() { } } "
                + "main { print new B(1, 2); print new C(); }", "1 2 #1 #2");
        checks.dueOutput("class A { method f(a) { a = a + 1; return a; } } main { let a = 5; print new A().f(a); print a; }", "6 5");
        checks.dueOutput("class A { method f() { } method g() { return; } method h() { if 1 { return 3; } return 4; } } "
                + "main { let a = new A(); print a.f(); print a.g(); print a.h(); print 5 == a.g(); }", "none none 3 0");
    }

    private static void failures(Checks checks) {
        String a = "class A { field x; method f(p) { return p; } } main { let a = new A(); print 0; % }";
        String[] fails = {"none.x = 1;", "-1", "print 5.x;", "-1", "a.y = 1;", "-2", "print a.f;", "-2", "a.g();", "-3", "a.x();", "-3",
                "none.g();", "-1", "a.f();", "-4", "a.f(1, 2);", "-4", "new A(1);", "-4", "print 1 + none;", "-5", "print a < 1;", "-5",
                "print none >= none;", "-5", "print -a;", "-5", "print none / 0;", "-5", "print 1 % 0;", "-6", "throw none;", "none",
                "throw a;", "#1", "throw 0;", "0"};
        for (int i = 0; i < fails.length; i += 2) {
            checks.dueOutput(a.replace("%", fails[i]), "0 failed " + fails[i + 1]);
            checks.dueOutput(a.replace("%", "try { " + fails[i] + " print 1; } catch e { print e; } print 2;"), "0 " + fails[i + 1] + " 2");
        }
        // what is in a catch is not in its try; the nearest try takes it; it comes out of methods
        checks.dueOutput("main { try { throw 1; } catch e { throw 2; } }", "failed 2");
        checks.dueOutput("main { try { try { throw 1; } catch e { throw e + 1; } } catch f { print f; } }", "2");
        checks.dueOutput("class A { method f(n) { if n == 0 { throw 7; } self.f(n - 1); print 1; } } "
                + "main { try { new A().f(5); } catch e { print e; } print 3; }", "7 3");
        checks.dueOutput("class A { method f() { try { return 1; } catch e { return 2; } } } main { print new A().f(); throw 3; }", "1 failed 3");
        WeaveHouse house = Checks.done("class A { method f() { throw self; } } main { new A().f(); }", false);
        checks.due("bodies behind a failure", house.told(6), 0);
        checks.due("kind of an OBJECT", house.failure(0), 2);
        checks.due("number of an OBJECT", house.failure(1), 1);
    }

    /** Operands are worked from the left to the right, then the act fails. */
    private static void order(Checks checks) {
        String a = "class A { field x; method p(v) { print v; return v; } } main { let a = new A(); try { % } catch e { print e; } }";
        checks.dueOutput(a.replace("%", "print a.p(1) + a.p(2) * a.p(3);"), "1 2 3 7");
        checks.dueOutput(a.replace("%", "print a.p(none) + a.p(2);"), "none 2 -5");
        checks.dueOutput(a.replace("%", "none.f(a.p(1), a.p(2));"), "1 2 -1");
        checks.dueOutput(a.replace("%", "none.x = a.p(1);"), "1 -1");
        checks.dueOutput(a.replace("%", "a.p(1).x = a.p(2);"), "1 2 -1");
        checks.dueOutput(a.replace("%", "new A(a.p(1));"), "1 -4");
        checks.dueOutput(a.replace("%", "a.p(1 / 0, a.p(1));"), "-6");
        checks.dueOutput(a.replace("%", "a.x = 5; a.x = a.p(a.x) + a.x; print a.x;"), "5 10");
    }

    private static void locals(Checks checks) {
        checks.dueOutput("main { let a = 1; if 1 { let b = a + 1; a = b; } if 1 { let b = a + 1; a = b; } print a; }", "3");
        checks.dueOutput("main { let n = 3; while n { let m = n * 2; n = n - 1; print m; } print n; }", "6 4 2 0");
        checks.dueOutput("main { try { throw 4; } catch e { e = e + 1; print e; } try { throw 5; } catch e { print e; } }", "5 5");
        checks.dueOutput("class A { method f(n) { let m = n; if n > 0 { self.f(n - 1); } print m; } } main { new A().f(3); }", "0 1 2 3");
    }

    private static void statements(Checks checks) {
        checks.dueOutput("main { if none { print 1; } else if 0 { print 2; } else { print 3; } if 5 { print 4; } else { print 5; } }", "3 4");
        checks.dueOutput("main { print 1; return 2; print 3; }", "1");
        checks.dueOutput("main { while 1 { print 1; if 1 { return; } } print 2; }", "1");
        checks.dueOutput("main { try { print 1; } catch e { print 2; } print 3; }", "1 3");
        checks.dueOutput("main { let n = 0; while n < 3 { try { n = n + 1; if n == 2 { throw n; } print n; } catch e { print 0 - e; } } }", "1 -2 3");
    }

    private static void limits(Checks checks) {
        String deep = "class A { method f(n) { if n > 1 { self.f(n - 1); } print 1; return; } } main { try { new A().f(%); } catch e { print e; } }";
        checks.due("40 bodies", Checks.done(deep.replace("%", "40"), false).told(2), 40);
        checks.dueOutput(deep.replace("%", "41"), "-7");
        WeaveHouse house = Checks.compiled("class A { method f(n) { self.f(n - 1); } } main { new A().f(1); }");
        house.begin(false);
        house.run(40);
        checks.due("bodies entered", house.told(6), 40);
        checks.due("run", house.run(1), 2);
        checks.due("failure", house.failure(1), -7);
        String many = "class A { field x; method init() { if 0 { } } } main { let n = 0; try { while 1 { n = n + 1; new A(); } } "
                + "catch e { print e; print n; } try { new A(5); } catch f { print f; } }";
        checks.dueOutput(many, "-8 201 -8");
        checks.due("OBJECTS", Checks.done(many, true).told(4), 200);
        // it was made, though its init fails
        house = Checks.done("class A { method init() { throw 1; } } main { new A(); }", false);
        checks.due("OBJECTS of an init that fails", house.told(4), 1);
        house = Checks.done("class A { method init() { } } main { new A(1); }", false);
        checks.due("OBJECTS without the ARGS of init", house.told(4), 0);
    }

    private static void kept(Checks checks) {
        WeaveHouse house = Checks.done("main { let n = 0; while n < 310 { print n; n = n + 1; } }", false);
        checks.due("values", house.told(2), 310);
        checks.due("the last that is kept", house.output(299, 1), 299);
        checks.dueThrow("output(300)", () -> house.output(300, 0), OUT);
    }

    private static void twice(Checks checks) {
        WeaveHouse house = Checks.done("class A { field x; } main { let a = new A(); print a.x; a.x = 1; throw a; }", false);
        checks.due("told(5)", house.told(5), 2);
        checks.due("begin again", house.begin(true), 1);
        checks.due("values then", house.told(2), 0);
        checks.due("OBJECTS then", house.told(4), 0);
        checks.due("failure then", house.failure(0), 0);
        checks.dueThrow("output then", () -> house.output(0, 0), OUT);
        house.run(2000);
        checks.due("THE OUTPUT then", Checks.output(house), "none failed #1");
        WeaveHouse open = Checks.compiled("class A { method f() { print 1; self.f(); } } main { new A().f(); print 2; }");
        for (int i = 0; i < 3; i++) {
            open.begin(i == 1);
            checks.due("bodies at the beginning", open.told(6), 0);
            open.run(9);
            checks.due("bodies", open.told(6), 5);
            checks.due("values", open.told(2), 4);
        }
    }

    /** What an S leaves behind does not pile up. */
    private static void longRun(Checks checks) {
        checks.dueOutput("class A { field x; method f(a) { try { throw a; } catch e { self.x = e; } return a; } } "
                + "main { let a = new A(); let n = 0; while n < 8000 { n = n + 1; a.f(n); a.x = a.f(a.x) + 1; "
                + "try { print 1 + a.f(1 / 0); } catch e { a.x = n; } } print a.x; print n; }", "8000 8000");
        checks.dueOutput("class A { field x; method f() { } } main { let a = new A(); let n = 0; while n < 8000 { n = n + 1; a.x = n; } "
                + "print a.x; while n < 16000 { n = n + 1; a.f(); } print n; }", "8000 16000");
    }
}
