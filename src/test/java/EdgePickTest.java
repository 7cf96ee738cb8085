/** Terms 5 and what is HELD: what matches, what is bound, KNOWN AHEAD and LEFT, TESTS. */
public final class EdgePickTest {
    /**
     * POINTS: 0 RUN A.m, 1 SET x in it, 2 RUN B.m with two ARGS, 3 GET x in it, 4 RUN C.k; in main 5 CALL m with one ARG,
     * 6 SET x, 7 GET x, 8 MAKE A, 9 MAKE B with one ARG, 10 CATCH.
     */
    private static final String KINDS = "class A { field x; method m(a) { self.x = a; } } class B under A { method m(a, b) { print self.x; } } class C { method k() { } } "
            + "main { none.m(1); none.x = none.x; new A(); new B(1); try { } catch e { } } ";

    public static void main(String[] args) {
        Checks checks = new Checks("EdgePickTest");
        ofPatterns(checks);
        ofObjects(checks);
        parts(checks);
        tables(checks);
        boundOr(checks);
        flowsAhead(checks);
        left(checks);
        compiledAnew(checks);
        types(checks);
        objects(checks);
        args(checks);
        notBoundYet(checks);
        undone(checks);
        picks(checks);
        conditions(checks);
        flows(checks);
        testsOfEach(checks);
        testsOfFlows(checks);
        sureBinds(checks);
        checks.end();
    }

    /** What is known of the last advice at each POINT, and how many are LEFT if that is not 1 of a 2, 0 of another. */
    private static String known(String text) {
        WeaveHouse house = Checks.compiled(text);
        int last = house.count(3) - 1;
        StringBuilder all = new StringBuilder();
        for (int i = 0; i < house.count(4); i++) {
            int is = house.meets(last, i, 0);
            int left = house.meets(last, i, 1);
            all.append(is).append(left == (is == 2 ? 1 : 0) ? "" : "/" + left);
        }
        return all.toString();
    }

    private static void due(Checks checks, String p, String wanted) {
        checks.due(p, known(KINDS + "aspect P { before () " + p + " { } }"), wanted);
    }

    private static void dueBinding(Checks checks, String p, String wanted) {
        checks.due(p, known(KINDS + "aspect P { before (o) " + p + " { } }"), wanted);
    }

    private static void ofPatterns(Checks checks) {
        String[] cases = {"call \"m\"", "00000100000", "call \"A.m\"", "00000200000", "call \"A+.m\"", "00000200000", "call \"C.m\"", "00000200000",
                "call \"Z.m\"", "00000000000", "call \"Z+.m\"", "00000000000", "call \"*.*\"", "00000200000", "call \"k\"", "00000000000", "call \"x\"", "00000000000",
                "get \"x\"", "00010001000", "get \"A.x\"", "00020002000", "get \"B+.x\"", "00020002000", "get \"Z.x\"", "00000000000", "get \"y\"", "00000000000",
                "get \"m\"", "00000000000", "set \"x\"", "01000010000", "set \"C.x\"", "02000020000", "set \"*+.x\"", "02000020000", "set \"D.x\"", "00000000000",
                "run \"m\"", "10100000000", "run \"A.m\"", "10000000000", "run \"A+.m\"", "10100000000", "run \"B.m\"", "00100000000", "run \"B+.m\"", "00100000000",
                "run \"*.k\"", "00001000000", "run \"Z.m\"", "00000000000", "run \"*\"", "10101000000", "run \"C.m\"", "00000000000",
                "make \"A\"", "00000000100", "make \"A+\"", "00000000110", "make \"B\"", "00000000010", "make \"B+\"", "00000000010", "make \"*\"", "00000000110",
                "make \"C\"", "00000000000", "make \"m\"", "00000000000", "catch", "00000000001",
                "within \"A\"", "11000000000", "within \"A+\"", "11110000000", "within \"B\"", "00110000000", "within \"A.m\"", "11000000000", "within \"A.k\"", "00000000000",
                "within \"A+.m\"", "11110000000", "within \"*.m\"", "11110000000", "within \"main\"", "00000111111", "within \"main.main\"", "00000111111",
                "within \"*.main\"", "00000111111", "within \"main.m\"", "00000000000", "within \"P\"", "00000000000", "within \"*\"", "11111111111", "within \"*.*\"", "11111111111",
                "within \"m\"", "00000000000"};
        for (int i = 0; i < cases.length; i += 2) {
            due(checks, cases[i], cases[i + 1]);
        }
        // of advice: the aspect's NAME, with + as well, and advice
        String advice = "class P1 { method advice() { } } aspect Watch { before () catch { new P1(); } % } ";
        String[] within = {"Watch", "01", "W*", "01", "Watch+", "01", "Watch.advice", "01", "Watch+.advice", "01", "*.advice", "11", "Watch.main", "00", "Watch.m", "00",
                "P1.advice", "10", "*.Watch", "00", "advice", "00", "main", "00"};
        for (int i = 0; i < within.length; i += 2) {
            checks.due("within " + within[i], known(advice.replace("%", "before () within \"" + within[i] + "\" { }")), within[i + 1]);
        }
        // a member that an aspect tells a class stands in the class
        String told = "aspect P { in A method m() { self.x = 1; } before () % { } } class A { } class B { }";
        checks.due("within the class", known(told.replace("%", "within \"A.m\"")), "11");
        checks.due("within the aspect", known(told.replace("%", "within \"P\"")), "00");
        checks.due("run of the class", known(told.replace("%", "run \"A.m\"")), "10");
        checks.due("self of the class", known(told.replace("%", "self(A)")), "11");
        checks.due("self of another", known(told.replace("%", "self(B)")), "00");
    }

    private static void ofObjects(Checks checks) {
        due(checks, "self(A)", "11110000000");
        due(checks, "self(B)", "22110000000");
        due(checks, "self(C)", "00001000000");
        due(checks, "target(A)", "12120222000");
        due(checks, "target(B)", "22120222000");
        due(checks, "target(C)", "02021222000");
        dueBinding(checks, "self(o)", "11111000000");
        dueBinding(checks, "target(o)", "12121222000");
        dueBinding(checks, "args(o)", "11000110011");
        dueBinding(checks, "args(*, o)", "00100000000");
        dueBinding(checks, "args(o, A)", "00200000000");
        due(checks, "args()", "00011001100");
        due(checks, "args(*)", "11000110011");
        due(checks, "args(*, *)", "00100000000");
        due(checks, "args(*, *, *)", "00000000000");
        due(checks, "args(A)", "22000220022");
        due(checks, "args(*, B)", "00200000000");
        due(checks, "args(A, B, C)", "00000000000");
        due(checks, "if (1)", "22222222222");
        due(checks, "if (0)", "22222222222");
        due(checks, "if (1 / 0)", "22222222222");
        // a class with others below it: D, E share F, G and H do not
        String tree = "class D { method m() { } } class E under D { method m() { } } class F under E { method m() { } } class G under D { method m() { } } "
                + "aspect P { before () self(%) { } }";
        checks.due("self(D)", known(tree.replace("%", "D")), "1111");
        checks.due("self(E)", known(tree.replace("%", "E")), "2110");
        checks.due("self(F)", known(tree.replace("%", "F")), "2210");
        checks.due("self(G)", known(tree.replace("%", "G")), "2001");
    }

    /** PARTS of 1 and of 12, and NAMES of 1 and of 12. */
    private static void parts(Checks checks) {
        String[] cases = {"abcdefghijkl", "abcdefghijkl", "1", "abcdefghijkl", "abcdefghijk*", "1", "abcdefghijkl", "*bcdefghijkl", "1", "abcdefghijkl", "abcdefghijk", "0",
                "abcdefghijkl", "bcdefghijkl", "0", "abcdefghijkl", "************", "1", "abcdefghijkl", "*l", "1", "abcdefghijkl", "a*", "1", "abcdefghijkl", "*k", "0",
                "abcdefghijkl", "a*b*c*d*e*l*", "1", "abcdefghijkl", "a*c*b*", "0", "a", "a", "1", "a", "*", "1", "a", "************", "1", "a", "a*", "1", "a", "*a", "1",
                "a", "*a*", "1", "a", "a*a", "0", "a", "b", "0", "a", "A", "0", "a", "aa", "0", "a", "a1", "0", "a1", "a", "0", "a1", "a*", "1", "a1", "*1", "1", "a1", "a1*", "1",
                "a1", "*a1*", "1", "aaaaaaaaaaaa", "*a*a*a*a*a*a", "1", "aaaaaaaaaaab", "*a*a*a*a*a*a", "0", "ababababab", "*abab", "1", "ababababab", "*abab*abab", "1",
                "ababab", "*abab*abab", "0", "abcab", "a*ab", "1", "aab", "a*ab", "1", "ab", "a*ab", "0"};
        for (int i = 0; i < cases.length; i += 3) {
            String main = "main { none." + cases[i] + "(); } aspect P { before () call \"" + cases[i + 1] + "\" { } }";
            checks.due(cases[i + 1] + " of " + cases[i], known(main), cases[i + 2]);
            String type = "class " + cases[i] + " { } main { new " + cases[i] + "(); } aspect P { before () make \"" + cases[i + 1] + "\" { } }";
            checks.due("make " + cases[i + 1] + " of " + cases[i], known(type), cases[i + 2]);
        }
    }

    /** and, or, not of what is 0, 1, 2 at a CALL. */
    private static void tables(Checks checks) {
        String[] leaf = {"catch", "call \"m\"", "if (1)"};
        String text = "main { none.m(); } aspect P { pick zero() = catch; pick one() = call \"m\"; pick two() = if (1); before () % { } }";
        String[] pick = {"zero()", "one()", "two()"};
        for (int a = 0; a < 3; a++) {
            checks.due("not " + a, known(text.replace("%", "not " + leaf[a])), a == 2 ? "2" : "" + (1 - a));
            checks.due("not not " + a, known(text.replace("%", "not not " + leaf[a])), "" + a);
            checks.due("pick of " + a, known(text.replace("%", pick[a])), "" + a);
            for (int b = 0; b < 3; b++) {
                int and = a == 0 || b == 0 ? 0 : a == 1 && b == 1 ? 1 : 2;
                int or = a == 1 || b == 1 ? 1 : a == 0 && b == 0 ? 0 : 2;
                String twice = a == 2 && b == 2 ? "/2" : "";
                checks.due(a + " and " + b, known(text.replace("%", leaf[a] + " and " + leaf[b])), and + twice);
                checks.due(a + " or " + b, known(text.replace("%", leaf[a] + " or " + leaf[b])), or + twice);
                checks.due(a + " and pick " + b, known(text.replace("%", leaf[a] + " and " + pick[b])), and + twice);
                checks.due(a + " or pick " + b, known(text.replace("%", leaf[a] + " or " + pick[b])), or + twice);
                checks.due("pick " + a + " or " + b, known(text.replace("%", pick[a] + " or " + leaf[b])), or + twice);
                for (int c = 0; c < 3; c++) {
                    int and3 = and == 0 || c == 0 ? 0 : and == 1 && c == 1 ? 1 : 2;
                    int or3 = or == 1 || c == 1 ? 1 : or == 0 && c == 0 ? 0 : 2;
                    int twos = (a == 2 ? 1 : 0) + (b == 2 ? 1 : 0) + (c == 2 ? 1 : 0);
                    String some = twos > 1 ? "/" + twos : "";
                    checks.due(a + " and " + b + " and " + c, known(text.replace("%", leaf[a] + " and " + leaf[b] + " and " + leaf[c])), and3 + (and3 == 2 ? some : ""));
                    checks.due(a + " or " + b + " or " + c, known(text.replace("%", leaf[a] + " or " + leaf[b] + " or " + leaf[c])), or3 + (or3 == 2 ? some : ""));
                }
            }
        }
    }

    /** A second side that is 1 and binds makes an or 1 only if the first one is 0. */
    private static void boundOr(Checks checks) {
        String[] leaf = {"args(o, *)", "args(o)", "(args(o) and if (1))"};
        String text = "main { none.m(1); } aspect P { pick zero(v) = args(v, *); pick one(v) = args(v); pick two(v) = args(v) and if (1); before (o) % { } }";
        String[] pick = {"zero(o)", "one(o)", "two(o)"};
        String[] wanted = {"0", "1", "2", "1", "1", "1", "2", "2", "2/2"};
        for (int a = 0; a < 3; a++) {
            for (int b = 0; b < 3; b++) {
                checks.due(a + " or binding " + b, known(text.replace("%", leaf[a] + " or " + leaf[b])), wanted[a * 3 + b]);
                checks.due(a + " or picked " + b, known(text.replace("%", leaf[a] + " or " + pick[b])), wanted[a * 3 + b]);
                checks.due("picked " + a + " or " + b, known(text.replace("%", pick[a] + " or " + leaf[b])), wanted[a * 3 + b]);
            }
        }
        checks.due("0 or 0 or 1", known(text.replace("%", leaf[0] + " or " + leaf[0] + " or " + leaf[1])), "1");
        checks.due("0 or 2 or 1", known(text.replace("%", leaf[0] + " or " + leaf[2] + " or " + leaf[1])), "2");
        checks.due("0 or 1 or 2", known(text.replace("%", leaf[0] + " or " + leaf[1] + " or " + leaf[2])), "1");
        checks.due("2 or 0 or 1", known(text.replace("%", leaf[2] + " or " + leaf[0] + " or " + leaf[1])), "2");
        checks.due("in an and with 2 or 1", known(text.replace("%", "call \"m\" and (" + leaf[2] + " or " + leaf[1] + ")")), "2");
        // what binds nothing is known beside an if, also in a bar or warn
        WeaveHouse house = Checks.compiled("main { try { } catch e { } none.f(); } aspect P { warn if (1) or catch; pick p() = catch; warn if (1) or p(); bar if (1) and catch; }");
        StringBuilder all = new StringBuilder();
        for (int k = 0; k < house.count(6); k++) {
            all.append(house.finding(k, 0)).append('@').append(house.finding(k, 2)).append('=').append(house.finding(k, 3)).append(' ');
        }
        checks.due("findings", all.toString(), "0@0=1 0@1=2 1@0=1 1@1=2 2@0=2 ");
    }

    /** flow: 1 where P is 1, 0 where P is 0 for all POINTS of the TEXT, else 2. */
    private static void flowsAhead(Checks checks) {
        due(checks, "flow (run \"A.m\")", "12222222222");
        due(checks, "flow (catch)", "22222222221");
        due(checks, "flow (call \"m\")", "22222122222");
        due(checks, "flow (call \"k\")", "00000000000");
        due(checks, "flow (make \"C\")", "00000000000");
        due(checks, "flow (call \"m\" and catch)", "00000000000");
        due(checks, "flow (not call \"k\")", "11111111111");
        due(checks, "flow (args(*, *, *))", "00000000000");
        due(checks, "flow (if (0))", "22222222222");
        due(checks, "flow (if (0) and catch)", "22222222222");
        due(checks, "flow (self(A))", "11112222222");
        due(checks, "flow (call \"Z.m\")", "00000000000");
        due(checks, "flow (call \"C.m\")", "22222222222");
        due(checks, "not flow (catch)", "22222222220");
        due(checks, "not flow (call \"k\")", "11111111111");
        checks.due("flow without such POINTS", known("main { none.f(); } aspect P { before () flow (not call \"f\") { } }"), "0");
        checks.due("flow of the POINT of another advice", known("main { none.f(); } aspect P { around () call \"f\" { none.x = 1; } before () flow (set \"x\") { } }"), "21");
    }

    /** LEFT: none if it is 0 or 1; of and, or those sides that are 2; a flow is one, whatever is in it. */
    private static void left(Checks checks) {
        String text = "main { none.m(); } aspect P { pick two() = if (1) or if (2) and call \"m\"; before () % { } }";
        String[] cases = {"if (1)", "2", "not if (1)", "2", "if (1) and if (2)", "2/2", "(if (1) or if (2)) and if (3)", "2/3", "flow (if (1) and if (2))", "2",
                "flow (if (1)) and flow (if (2))", "2/2", "two()", "2/2", "not two()", "2/2", "two() and two()", "2/4", "two() and call \"m\" and if (3)", "2/3",
                "two() and catch", "0", "two() or call \"m\"", "1", "not (two() and catch)", "1", "if (1) and not (if (2) or catch and if (3))", "2/2",
                "target(C) and if (1)", "2/2", "call \"C.m\" and target(C) and args() and if (1)", "2/3", "args(C) or if (1)", "2"};
        for (int i = 0; i < cases.length; i += 2) {
            checks.due("LEFT of " + cases[i], known("class C { } " + text.replace("%", cases[i])), cases[i + 1]);
        }
        String many = "main { none.m(); } aspect P { before () if (1)" + Checks.times(150, " and if (1)") + " { } }";
        checks.due("LEFT of 151", known(many), "2/151");
    }

    /** What was known of an earlier text does not show in that of a later one. */
    private static void compiledAnew(Checks checks) {
        String[] p = {"not catch", "if (1)", "catch", "if (1)", "not catch", "catch", "not catch"};
        String[] wanted = {"1", "2", "0", "2", "1", "0", "1"};
        WeaveHouse house = new WeaveHouse();
        for (int k = 0; k < p.length; k++) {
            house.wipe();
            Checks.feed(house, "main { none" + Checks.times(17, ".a") + " = 1; } aspect P { before () " + p[k] + " { } warn " + p[k] + "; }");
            checks.due("POINTS of " + p[k], house.compile(), 17);
            for (int i = 0; i < 17; i++) {
                checks.due(p[k] + " at " + i, "" + house.meets(0, i, 0), wanted[k]);
            }
            checks.due("findings of " + p[k], house.count(6), wanted[k].equals("0") ? 0 : 17);
        }
    }

    private static final String TYPES = "class A { field x; method m(v) { } method k() { self.x = 5; print self.x; } } class B under A { method m(v) { } } "
            + "class C { field x; method m(v) { } } aspect P { before (v) args(v) and % { print v; } before (t) target(t) and # { print t; } } ";

    /** The TYPE is that of the TARGET's class; of run, of the class in which the method is told. */
    private static void types(Checks checks) {
        String text = TYPES + "main { let a = new A(); let b = new B(); let c = new C(); a.m(1); b.m(2); c.m(3); a.x = 4; b.x = 5; c.x = 6; a.x.y = 7; }";
        String[] cases = {"call \"A.m\"", "1", "call \"A+.m\"", "1 2", "call \"B.m\"", "2", "call \"C.m\"", "3", "call \"*.m\"", "1 2 3", "call \"Z*.m\"", "", "call \"C+.m\"", "3",
                "run \"A.m\"", "1", "run \"B.m\"", "2", "run \"A+.m\"", "1 2", "set \"A.x\"", "4", "set \"A+.x\"", "4 5", "set \"B.x\"", "5", "set \"C.x\"", "6", "set \"*.x\"", "4 5 6",
                "set \"*.*\"", "4 5 6", "set \"y\"", "7", "set \"A.y\"", ""};
        for (int i = 0; i < cases.length; i += 2) {
            checks.dueOutput(text.replace("%", cases[i]).replace("#", "catch"), (cases[i + 1] + " failed -1").trim());
        }
        String gets = TYPES + "main { let a = new A(); let b = new B(); let c = new C(); a.x = b.x; b.x = c.x; c.x = a.x; none.x = none.x; }";
        String[] get = {"get \"A.x\"", "#1", "get \"A+.x\"", "#2 #1", "get \"B.x\"", "#2", "get \"C.x\"", "#3", "get \"*.x\"", "#2 #3 #1", "get \"x\"", "#2 #3 #1"};
        for (int i = 0; i < get.length; i += 2) {
            checks.dueOutput(gets.replace("%", "catch").replace("#", get[i]), get[i + 1] + " failed -1");
        }
        // an inherited method is told in the class above, and called by that of the TARGET
        String inherited = "class A { method m() { print 0; } } class B under A { } aspect P { before () % { print 1; } } main { new B().m(); }";
        checks.dueOutput(inherited.replace("%", "call \"B.m\""), "1 0");
        checks.dueOutput(inherited.replace("%", "call \"A.m\""), "0");
        checks.dueOutput(inherited.replace("%", "run \"A.m\""), "1 0");
        checks.dueOutput(inherited.replace("%", "run \"B.m\""), "0");
        checks.dueOutput(inherited.replace("%", "run \"m\" and self(B)"), "1 0");
    }

    /** self, target: an OBJECT, of the class or below; SELF of RUN is that which begins. */
    private static void objects(Checks checks) {
        String text = "class A { method m(o) { o.k(); } method k() { } } class B under A { } aspect P { before % { print #; } } "
                + "main { let a = new A(); let b = new B(); a.m(b); }";
        String[] cases = {"(s) call \"k\" and self(s)", "s", "#1", "(t) call \"k\" and target(t)", "t", "#2", "(s) run \"k\" and self(s)", "s", "#2", "(t) run \"k\" and target(t)", "t", "#2",
                "(s) call \"m\" and self(s)", "s", "", "(t) call \"m\" and target(t)", "t", "#1", "(s) run \"m\" and self(s)", "s", "#1", "(s) make \"*\" and self(s)", "s", "",
                "(t) make \"*\" and target(t)", "t", "", "() call \"k\" and self(B)", "1", "", "() call \"k\" and self(A)", "1", "1", "() call \"k\" and target(B)", "1", "1",
                "() run \"k\" and self(B)", "1", "1", "() run \"m\" and self(B)", "1", "", "() run \"m\" and target(A)", "1", "1", "() not self(A) and not make \"*\"", "1", "1"};
        for (int i = 0; i < cases.length; i += 3) {
            checks.dueOutput(text.replace("%", cases[i]).replace("#", cases[i + 1]), cases[i + 2]);
        }
        String none = "aspect P { before (o) % and target(o) { print 1; } before () % { print 2; } } main { try { # } catch e { print e; } }";
        checks.dueOutput(none.replace("%", "call \"m\"").replace("#", "none.m();"), "2 -1");
        checks.dueOutput(none.replace("%", "get \"x\"").replace("#", "print 1.x;"), "2 -1");
        checks.dueOutput(none.replace("%", "set \"x\"").replace("#", "0.x = 1;"), "2 -1");
        // SELF of what stands in an advice or an init
        checks.dueOutput("class A { field x; method init() { self.x = 1; } } aspect P { before (s) set \"x\" and self(s) { print s; } } main { new A(); new A(); }", "#1 #2");
        checks.dueOutput("class A { field x; method m() { } } aspect P { before (t) run \"m\" and self(t) { t.x = 1; } before () set \"x\" and self(A) { print 9; } "
                + "before () set \"x\" and not self(A) { print 8; } } main { new A().m(); }", "8");
    }

    /** A parameter is bound whatever the ARG is; a class wants an OBJECT of it or below; * is any; so many there have to be. */
    private static void args(Checks checks) {
        String six = "class A { method m(a, b, c, d, e, f) { } method k(a, b) { } } class B under A { } aspect P { before (%) call \"*\" and args(#) { @ } } "
                + "main { let a = new A(); let b = new B(); a.m(1, none, a, b, 5, 6); a.k(a, 2); a.k(b, a); }";
        checks.dueOutput(six.replace("%", "u, v, w, x, y, z").replace("#", "z, y, x, w, v, u").replace("@", "print u; print v; print w; print x; print y; print z;"),
                "6 5 #2 #1 none 1");
        checks.dueOutput(six.replace("%", "u, v, w, x, y, z").replace("#", "u, v, w, x, y, z").replace("@", "print u; print v; print w; print x; print y; print z;"),
                "1 none #1 #2 5 6");
        checks.dueOutput(six.replace("%", "v").replace("#", "*, *, A, B, *, v").replace("@", "print v;"), "6");
        checks.dueOutput(six.replace("%", "v").replace("#", "*, *, B, B, *, v").replace("@", "print v;"), "");
        checks.dueOutput(six.replace("%", "v").replace("#", "*, *, A, A, v, *").replace("@", "print v;"), "5");
        checks.dueOutput(six.replace("%", "v").replace("#", "A, *, *, *, v, *").replace("@", "print v;"), "");
        checks.dueOutput(six.replace("%", "v").replace("#", "*, A, *, *, v, *").replace("@", "print v;"), "");
        checks.dueOutput(six.replace("%", "v").replace("#", "v, *, *, *, *, A").replace("@", "print v;"), "");
        checks.dueOutput(six.replace("%", "v").replace("#", "*, *, *, *, v").replace("@", "print v;"), "");
        checks.dueOutput(six.replace("%", "v, w").replace("#", "w, v").replace("@", "print v; print w;"), "2 #1 #1 #2");
        checks.dueOutput(six.replace("%", "v").replace("#", "A, v").replace("@", "print v;"), "2 #1");
        checks.dueOutput(six.replace("%", "v").replace("#", "B, v").replace("@", "print v;"), "#1");
        checks.dueOutput(six.replace("%", "v").replace("#", "v, A").replace("@", "print v;"), "#2");
        checks.dueOutput(six.replace("%", "v").replace("#", "v, *").replace("@", "print v;"), "#1 #2");
        // of each kind
        String kinds = "class A { field x; method init(v) { } } aspect P { before (v) args(v) { print v; } before () args() { print 0; } } main { let a = new A(1); a.x = 2; let b = a.x; "
                + "try { throw none; } catch e { } }";
        checks.dueOutput(kinds, "1 1 2 0 none");
    }

    /** What is not bound yet is NONE in an if, whatever other advice, or an earlier POINT, bound. */
    private static void notBoundYet(Checks checks) {
        String text = "class A { method m(v) { } method k(v, w) { } } aspect P { % } main { let a = new A(); a.m(5); a.k(6, 7); a.m(8); a.k(9, 10); }";
        checks.dueOutput(text.replace("%", "before (v) call \"m\" and args(v) { print v; } before (v) if (v == none) and call \"m\" and args(v) { print v; }"), "5 5 8 8");
        checks.dueOutput(text.replace("%", "before (v) if (v == none) and call \"m\" and args(v) and if (v != none) { print v; }"), "5 8");
        checks.dueOutput(text.replace("%", "before (v, w) call \"k\" and args(v, w) { print w; } before (v, w) if (w == none) and call \"k\" and args(w, v) and if (w < v) { print w; }"),
                "7 6 10 9");
        checks.dueOutput(text.replace("%", "before (v, w) call \"k\" and args(v, *) and if (w == none) and args(*, w) and if (w == 7) { print w; }"), "7");
        checks.dueOutput(text.replace("%", "before (v) if (v) and call \"m\" and args(v) { print v; }"), "");
        checks.dueOutput(text.replace("%", "behind () give r call \"m\" and if (r == none) { print 1; } behind () fail r call \"m\" and if (r == none) { print 2; }"), "1 1");
        checks.dueOutput(text.replace("%", "before (a, b) call \"k\" and args(a, b) { print b; } behind (a) give r call \"k\" and args(a, *) and if (r == none) { print a; }"),
                "7 6 10 9");
    }

    /** What the first side of an or bound that is not so, is undone. */
    private static void undone(Checks checks) {
        String text = "class A { method k(v, w) { } } aspect P { % } main { let a = new A(); a.k(1, 2); a.k(4, 3); }";
        checks.dueOutput(text.replace("%", "before (v, w) call \"k\" and (args(v, w) and if (v > w) or if (w == none and v == none) and args(w, v)) { print v; print w; }"), "2 1 4 3");
        checks.dueOutput(text.replace("%", "pick p(v, w) = args(v, w) and if (v > w) or if (w == none and v == none) and args(w, v); before (a, b) call \"k\" and p(a, b) { print a; print b; }"),
                "2 1 4 3");
        checks.dueOutput(text.replace("%", "pick p(v, w) = args(v, w) and if (v > w); before (a, b) call \"k\" and (p(a, b) or if (a == none) and if (b == none) and args(b, a)) { print a; print b; }"),
                "2 1 4 3");
        checks.dueOutput(text.replace("%", "before (v) call \"k\" and (args(v, *) and if (0) or args(*, v) and if (v == 2) or if (v == none) and target(v)) { print v; }"), "2 #1");
        checks.dueOutput(text.replace("%", "before (v) call \"k\" and (args(v, *) or args(*, v)) { print v; }"), "1 4");
    }

    /** A pick has parameters of its own, anew each time it is named. */
    private static void picks(Checks checks) {
        String text = "class A { method m(v) { } method k(v, w) { } } aspect P { field n; % } main { let a = new A(); a.m(5); a.k(6, 7); a.m(8); a.k(9, 10); }";
        checks.dueOutput(text.replace("%", "pick p(v) = if (v == none) and target(v); before (o, u) call \"m\" and p(o) and p(u) { print o == u; }"), "1 1");
        checks.dueOutput(text.replace("%", "pick p(v) = if (v == none) and args(v); before (o) call \"m\" and p(o) { print o; } before (u) call \"m\" and p(u) { print u; }"), "5 5 8 8");
        checks.dueOutput(text.replace("%", "pick p(v, w) = args(v, w) and if (w == 7); before (v, w) call \"k\" and p(w, v) { print v; print w; }"), "7 6");
        checks.dueOutput(text.replace("%", "pick p(v, w) = args(v, w) and if (v == 9); before (w, v) call \"k\" and p(w, v) and if (w == 9) { print w; print v; }"), "9 10");
        checks.dueOutput(text.replace("%", "pick p(a, b, c, d, e, f) = args(a, b) and target(c) and (args(d, *) and args(*, e)) and target(f); "
                + "before (f, e, d, c, b, a) call \"k\" and p(f, e, d, c, b, a) { print f; print e; print d; print c; print b; print a; }"), "6 7 #1 6 7 #1 9 10 #1 9 10 #1");
        // what it does not bind itself does not show, though its caller bound it
        checks.dueOutput(text.replace("%", "pick p(v) = if (v == none) and target(v); before (o, v) call \"m\" and args(v) and p(o) { print o; print v; }"), "#1 5 #1 8");
        checks.dueOutput(text.replace("%", "pick p() = if (n == none); before (v) call \"m\" and p() and args(v) { n = v; print v; }"), "5");
        checks.dueOutput(text.replace("%", "pick p(v) = args(v); before () call \"m\" { print 1; } before (v) call \"m\" and not (call \"k\" or catch) and p(v) { print v; }"), "1 5 1 8");
        // picks of two aspects of the same NAME are two
        checks.dueOutput("aspect P { pick p() = set \"x\"; around () p() { print 1; } } aspect Q { pick p() = set \"y\"; around () p() { print 2; } } main { none.x = 1; none.y = 1; }", "1 2");
    }

    /** The E of an if: fields of the aspect, parameters; what throws is not TRUE, and leaves nothing behind. */
    private static void conditions(Checks checks) {
        String text = "class A { method m(v) { return v; } } class B under A { } aspect P { field n; field o; before (v) call \"m\" and args(v) and % { print 0; } } "
                + "main { let a = new A(); print 5 + a.m(a.m(1) + 1) * (2 + a.m(3)); }";
        for (String no : new String[] {"if (1 + (2 + none))", "if (1 + (2 + (3 + 1 / 0)))", "if (1 / 0 or 1)", "if (n < 1)", "if (n + 1)", "if (- n)", "if (0)", "if (none)", "if (not 1)",
                "if (v == n)", "if (v is A)", "if (1 and none)", "if (2 % 0 == none)", "not if (1)", "if (1 + 1 > 2 and 5)"}) {
            checks.dueOutput(text.replace("%", no), "15");
        }
        for (String yes : new String[] {"if (1)", "if (v)", "if (v == 1 or v > 1)", "if (n == none and o == none)", "if ((((v))))", "not if (1 + (2 + none))", "if (not (v is A))",
                "if (- v < 0)", "if (v * 2 - v == v)", "if (0 or v)", "if (7 / 2 == 3 and 0 - 7 % 2 != 1)"}) {
            checks.dueOutput(text.replace("%", yes), "0 0 0 15");
        }
        checks.dueOutput(text.replace("print 0;", "n = v; o = none;").replace("%", "(if (n == none) or if (v > n) and if (o == none))").replace("main { let a", "main { let b = 1; let a"), "15");
        checks.dueOutput("class A { } class B under A { } aspect P { around (v) set \"x\" and args(v) and if (v is A) { print v; } around (v) set \"x\" and args(v) and if (not (v is A)) { print 0; } } "
                + "main { none.x = new A(); none.x = new B(); none.x = 1; none.x = none; }", "#1 #2 0 0");
    }

    /** A flow is so for this POINT or one that was reached and not left. */
    private static void flows(Checks checks) {
        String text = "class A { field x; method m() { self.k(); } method k() { self.x = 1; } method init() { self.k(); } } aspect P { before () % { print 1; } } "
                + "main { let a = new A(); print 0; a.m(); print 0; a.k(); try { a.z(); } catch e { a.x = 2; } }";
        String[] cases = {"set \"x\" and flow (make \"A\")", "1 0 0", "set \"x\" and flow (call \"m\")", "0 1 0", "set \"x\" and flow (run \"k\")", "1 0 1 0 1",
                "set \"x\" and flow (call \"k\" and within \"main\")", "0 0 1", "set \"x\" and flow (set \"x\" and within \"main\")", "0 0 1", "set \"x\" and flow (run \"init\")", "1 0 0",
                "set \"x\" and not flow (run \"*\")", "0 0 1", "set \"x\" and flow (catch)", "0 0", "call \"k\" and flow (set \"x\")", "0 0",
                "set \"x\" and flow (call \"z\")", "0 0", "set \"x\" and flow (call \"m\") and flow (call \"k\" and within \"A\")", "0 1 0", "set \"x\" and flow (self(A) and run \"m\")", "0 1 0",
                "set \"x\" and flow (args() and call \"*\")", "1 0 1 0 1", "set \"x\" and flow (args(*))", "1 0 1 0 1 1"};
        for (int i = 0; i < cases.length; i += 2) {
            checks.dueOutput(text.replace("%", cases[i]), cases[i + 1]);
        }
        // all six ARGS of a POINT that was reached are kept, while others are reached
        String six = "class A { field x; method k(a, b, c, d, e, f) { self.x = 1; } } aspect P { before () set \"x\" and flow (call \"k\" and args(%)) { print 1; } } "
                + "main { let a = new A(); a.k(1, 2, 3, 4, 5, 6); print 0; a.k(1, 2, 3, 4, 5, a); print 0; a.k(a, 2, 3, 4, 5, 6); }";
        checks.dueOutput(six.replace("%", "*, *, *, *, *, A"), "0 1 0");
        checks.dueOutput(six.replace("%", "A, *, *, *, *, *"), "0 0 1");
        checks.dueOutput(six.replace("%", "*, *, *, *, *, *"), "1 0 1 0 1");
        checks.dueOutput(six.replace("%", "*, *, *, *, *"), "0 0");
        // the if in it is that of the advice, with what is bound, and the fields as they are now
        checks.dueOutput("class A { method m(v) { self.k(v); } method k(v) { } } aspect P { field n; before (v) call \"k\" and args(v) and flow (call \"m\" and if (v == 2)) { print v; } "
                + "before () call \"k\" { n = 1; } before () call \"k\" and flow (call \"m\" and if (n)) { print 9; } } main { let a = new A(); a.m(1); a.m(2); }", "2 9");
        // a RUN that begins anew has left all POINTS
        WeaveHouse house = Checks.compiled(text.replace("%", "set \"x\" and flow (call \"m\")"));
        for (int steps = 0; steps <= 12; steps++) {
            house.begin(steps % 2 == 0);
            if (steps > 0) {
                house.run(steps);
            }
            house.begin(steps % 3 == 0);
            house.run(2000);
            checks.due("THE OUTPUT behind " + steps, Checks.output(house), "0 1 0");
        }
    }

    private static void dueTests(Checks checks, String text, int looking, int woven) {
        checks.due("TESTS looking: " + text, Checks.done(text, false).told(1), looking);
        checks.due("TESTS woven: " + text, Checks.done(text, true).told(1), woven);
    }

    /** Each of call .. if that is asked is one TEST; and, or from the left as far as needed. */
    private static void testsOfEach(Checks checks) {
        String text = "class C { } aspect P { field n; pick p() = call \"m\"; pick q() = if (1) and if (0); before () % { } } main { none.m(); }";
        for (String known : new String[] {"call \"m\"", "call \"k\"", "run \"m\"", "make \"C\"", "get \"m\"", "set \"m\"", "catch", "within \"main\"", "self(C)", "args()", "args(*)",
                "call \"Z.m\"", "not catch", "not not catch", "p()", "not p()", "(((catch)))"}) {
            dueTests(checks, text.replace("%", known), 1, 0);
        }
        for (String either : new String[] {"call \"C.m\"", "target(C)", "if (1)", "if (0)", "if (1 / 0)", "if (n == 1 and n == 2)", "not if (1)", "not target(C)"}) {
            dueTests(checks, text.replace("%", either), 1, 1);
        }
        String[] more = {"call \"m\" and catch", "2 0", "catch and call \"m\"", "1 0", "call \"m\" or catch", "1 0", "catch or call \"m\"", "2 0", "call \"m\" and args() and if (1)", "3 1",
                "call \"m\" and args(*) and if (1)", "2 0", "if (1) and if (2)", "2 2", "if (0) and if (2)", "1 1", "if (1) or if (2)", "1 1", "if (0) or if (2)", "2 2",
                "if (0) or call \"m\"", "2 0", "if (1) and catch", "2 0", "if (0) and call \"m\"", "1 1", "q()", "2 2", "not q()", "2 2", "q() or q()", "4 4", "q() and q()", "2 2",
                "p() and q()", "3 2", "not (if (0) or if (1))", "2 2", "(catch or if (1)) and (call \"m\" or if (1))", "3 1", "if (0) or catch or if (0)", "3 2",
                "if (0) or if (0) or if (0) or if (0)", "4 4", "if (1) and if (1) and if (0) and if (1)", "3 3"};
        for (int i = 0; i < more.length; i += 2) {
            String[] wanted = more[i + 1].split(" ");
            dueTests(checks, text.replace("%", more[i]), Integer.parseInt(wanted[0]), Integer.parseInt(wanted[1]));
        }
        // of all advice, in each RUN anew
        WeaveHouse house = Checks.compiled("aspect P { before () if (1) { } around () if (1) { } behind () if (0) { } } aspect Q each object { before () if (1) { } } main { none.m(); }");
        for (int i = 0; i < 3; i++) {
            house.begin(i == 1);
            house.run(1);
            checks.due("TESTS of RUN " + i, house.told(1), 3);
        }
        // an advice of each object is asked only if there is one
        dueTests(checks, "class A { method m() { none.k(); } } aspect P each object { before () if (0) { } } main { new A().m(); }", 3, 3);
    }

    /** A flow is one, and those in it for each POINT for which it is held: MAKE, CALL, RUN, SET within RUN and CALL. */
    private static void testsOfFlows(Checks checks) {
        String text = "class A { method m() { none.x = 1; } } aspect P { before () % { } } main { new A().m(); }";
        String[] cases = {"flow (catch)", "11 0", "flow (call \"m\")", "11 3", "flow (if (1))", "8 8", "flow (if (0))", "11 11", "flow (call \"m\" and if (1))", "14 7",
                "flow (set \"x\")", "9 3", "flow (run \"m\")", "9 3", "flow (not catch)", "8 0", "not flow (if (1))", "8 8", "flow (call \"m\") and if (1)", "14 6",
                "set \"x\" and flow (call \"m\")", "8 1", "set \"x\" and flow (make \"A\")", "8 1", "flow (make \"A\") or flow (call \"m\")", "20 4"};
        for (int i = 0; i < cases.length; i += 2) {
            String[] wanted = cases[i + 1].split(" ");
            dueTests(checks, text.replace("%", cases[i]), Integer.parseInt(wanted[0]), Integer.parseInt(wanted[1]));
        }
    }

    /** WOVEN, what is 1 is so, and binds, all the same: of an or the first side that is. */
    private static void sureBinds(Checks checks) {
        String text = "class A { method m(v, w) { } } aspect P { pick p(a, b) = run \"m\" and args(a, b); pick q(a) = self(a) or target(a); before (v, w) % { print v; print w; } } "
                + "main { new A().m(3, 4); }";
        String[] cases = {"run \"m\" and args(v, w)", "3 4", "run \"m\" and args(w, v)", "4 3", "p(v, w)", "3 4", "p(w, v)", "4 3", "run \"m\" and q(v) and args(w, *)", "#1 3",
                "run \"m\" and (args(v, w) or args(w, v))", "3 4", "run \"m\" and (catch and args(v, w) or args(w, v))", "4 3",
                "run \"m\" and (args(v, w) and args() or args(w, v) and args(*, *) or args(v, w))", "4 3", "run \"m\" and (p(v, w) or args(w, v))", "3 4",
                "run \"m\" and (args(*, v) or self(v)) and args(w, *)", "4 3", "run \"m\" and (make \"A\" and args(*, v) or self(v)) and args(w, *)", "#1 3"};
        for (int i = 0; i < cases.length; i += 2) {
            checks.dueOutput(text.replace("%", cases[i]), cases[i + 1]);
            checks.due("TESTS woven: " + cases[i], Checks.done(text.replace("%", cases[i]), true).told(1), 0);
        }
    }
}
