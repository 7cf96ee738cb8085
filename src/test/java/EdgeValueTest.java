/** Terms 3 and 4: WHOLES at the ends of 32 bits, strengths, TRUE, what is thrown and when, OBJECTS, LOCALS, bodies. */
public final class EdgeValueTest {
    private static final String LEAST = "(65536 * 32768)";
    private static final String MOST = "(65536 * 32768 - 1)";

    public static void main(String[] args) {
        Checks checks = new Checks("EdgeValueTest");
        wraps(checks);
        divisions(checks);
        comparisons(checks);
        strengths(checks);
        prefixes(checks);
        truth(checks);
        equal(checks);
        is(checks);
        wanted(checks);
        targets(checks);
        members(checks);
        arguments(checks);
        making(checks);
        mostObjects(checks);
        mostBodies(checks);
        deepStack(checks);
        fieldsOfAll(checks);
        localsAnew(checks);
        caught(checks);
        steps(checks);
        checks.end();
    }

    private static void due(Checks checks, String e, String wanted) {
        checks.dueOutput("class A { field x; method m(p) { return p; } } class B under A { } class C { } main { print " + e + "; }", wanted);
    }

    /** WHOLES wrap at both ends. */
    private static void wraps(Checks checks) {
        due(checks, MOST, "2147483647");
        due(checks, LEAST, "-2147483648");
        due(checks, MOST + " + 1", "-2147483648");
        due(checks, LEAST + " - 1", "2147483647");
        due(checks, MOST + " + " + MOST, "-2");
        due(checks, LEAST + " + " + LEAST, "0");
        due(checks, LEAST + " * 2", "0");
        due(checks, MOST + " * 2", "-2");
        due(checks, MOST + " * " + MOST, "1");
        due(checks, LEAST + " * -1", "-2147483648");
        due(checks, "-" + LEAST, "-2147483648");
        due(checks, "-" + MOST, "-2147483647");
        due(checks, "0 - " + LEAST, "-2147483648");
        due(checks, LEAST + " - " + MOST, "1");
        due(checks, "999999999 + 999999999", "1999999998");
        due(checks, "999999999 + 999999999 + 999999999", "-1294967299");
        due(checks, "999999999 * 999999999", "" + 999999999 * 999999999);
        due(checks, "0 - 999999999 - 999999999 - 999999999", "1294967299");
        due(checks, "-0", "0");
    }

    private static void divisions(Checks checks) {
        int[] numbers = {7, -7, 0, 1, -1, 2, -2, 100};
        for (int a : numbers) {
            for (int b : numbers) {
                String left = a < 0 ? "(-" + -a + ")" : "" + a;
                String right = b < 0 ? "-" + -b : "" + b;
                due(checks, left + " / " + right, b == 0 ? "failed -6" : "" + a / b);
                due(checks, left + " % " + right, b == 0 ? "failed -6" : "" + a % b);
            }
        }
        due(checks, LEAST + " / -1", "-2147483648");
        due(checks, LEAST + " % -1", "0");
        due(checks, LEAST + " / 1", "-2147483648");
        due(checks, LEAST + " / " + LEAST, "1");
        due(checks, LEAST + " % " + MOST, "-1");
        due(checks, MOST + " / " + LEAST, "0");
        due(checks, MOST + " % " + LEAST, "2147483647");
        due(checks, MOST + " / -1", "-2147483647");
        due(checks, LEAST + " / 0", "failed -6");
        due(checks, "0 / 0", "failed -6");
        due(checks, "0 % 0", "failed -6");
        due(checks, "1 / (1 - 1)", "failed -6");
    }

    private static void comparisons(Checks checks) {
        int[] numbers = {-1, 0, 1, 2};
        for (int a : numbers) {
            for (int b : numbers) {
                String left = a < 0 ? "- 1" : "" + a;
                String right = b < 0 ? "- 1" : "" + b;
                due(checks, left + " < " + right, a < b ? "1" : "0");
                due(checks, left + " <= " + right, a <= b ? "1" : "0");
                due(checks, left + " > " + right, a > b ? "1" : "0");
                due(checks, left + " >= " + right, a >= b ? "1" : "0");
                due(checks, left + " == " + right, a == b ? "1" : "0");
                due(checks, left + " != " + right, a != b ? "1" : "0");
            }
        }
        // compared as they are, not by what lies between them
        due(checks, LEAST + " < " + MOST, "1");
        due(checks, MOST + " < " + LEAST, "0");
        due(checks, LEAST + " >= " + MOST, "0");
        due(checks, MOST + " > " + LEAST, "1");
        due(checks, LEAST + " <= 1", "1");
        due(checks, LEAST + " == " + MOST + " + 1", "1");
    }

    private static int strength(String op) {
        switch (op) {
            case "or": return 0;
            case "and": return 1;
            case "+":
            case "-": return 3;
            case "*":
            case "/":
            case "%": return 4;
            default: return 2;
        }
    }

    /** Each pair of operators: the stronger one first, of equal ones the left one. */
    private static void strengths(Checks checks) {
        String[] ops = "or and == != < <= > >= + - * / %".split(" ");
        String[] triples = {"7 3 2", "0 3 2", "2 2 1", "1 0 5", "9 4 4", "0 0 1", "1 2 3", "3 1 2", "5 5 5", "2 3 1", "1 5 0", "1 2 2", "1 4 3"};
        for (String first : ops) {
            for (String second : ops) {
                boolean left = strength(first) >= strength(second);
                int different = 0;
                for (String triple : triples) {
                    String[] n = triple.split(" ");
                    String plain = n[0] + " " + first + " " + n[1] + " " + second + " " + n[2];
                    String grouped = "(" + n[0] + " " + first + " " + n[1] + ") " + second + " " + n[2];
                    String other = n[0] + " " + first + " (" + n[1] + " " + second + " " + n[2] + ")";
                    different += outputOf(grouped).equals(outputOf(other)) ? 0 : 1;
                    checks.due(plain, outputOf(plain), outputOf(left ? grouped : other));
                }
                boolean same = first.equals(second) && "or and + *".contains(first) || first.equals("+") && second.equals("-");
                checks.due(first + " and " + second + " can be told apart", same || different > 0 ? 1 : 0, 1);
            }
        }
        due(checks, "1 or 0 and 0 == 1 + 2 * 3", "1");
        due(checks, "2 * 3 + 1 == 7 and 0 or 0", "0");
        due(checks, "8 - 3 - 2", "3");
        due(checks, "8 / 4 / 2", "1");
        due(checks, "8 / 4 * 2", "4");
        due(checks, "9 % 5 * 2", "8");
        due(checks, "3 == 1 + 2", "1");
        due(checks, "3 > 2 > 1", "0");
        due(checks, "1 == 1 == 1", "1");
        due(checks, "5 == 5 == 5", "0");
    }

    private static String outputOf(String e) {
        return Checks.output(Checks.done("main { print " + e + "; }", true));
    }

    /** not and - are stronger than all operators; is, fields and calls stronger than they. */
    private static void prefixes(Checks checks) {
        due(checks, "not 0 + 1", "2");
        due(checks, "not 1 + 1", "1");
        due(checks, "- 2 * 3", "-6");
        due(checks, "- 2 + 3", "1");
        due(checks, "not 1 == 0", "1");
        due(checks, "not 2 == 2", "0");
        due(checks, "not 0 and 0", "0");
        due(checks, "not 1 or 1", "1");
        due(checks, "not not 5", "1");
        due(checks, "- - 5", "5");
        due(checks, "not - 5", "0");
        due(checks, "- not 5", "0");
        due(checks, "- not 0", "-1");
        due(checks, "1 - - 1", "2");
        due(checks, "2 * - 3", "-6");
        due(checks, "0 == not 7", "1");
        due(checks, "- new A().m(4)", "-4");
        due(checks, "not new A().m(0)", "1");
        due(checks, "- new A() is A", "-1");
        due(checks, "not new A() is B", "1");
        due(checks, "- new A().m(4) is A", "0");
        due(checks, "1 + new A() is A", "2");
        due(checks, "2 * new A() is A + 1", "3");
        due(checks, "new A() is A == 1", "1");
        due(checks, "(1 + 2) is A", "0");
    }

    /** TRUE is all but NONE and 0; and, or work the right side only if it matters. */
    private static void truth(Checks checks) {
        String[] values = {"none", "0", "1", "- 1", "2", LEAST, "new A()"};
        for (String a : values) {
            boolean is = !a.equals("none") && !a.equals("0");
            due(checks, "not " + a, is ? "0" : "1");
            due(checks, a + " and 1 / 0", is ? "failed -6" : "0");
            due(checks, a + " or 1 / 0", is ? "1" : "failed -6");
            checks.dueOutput("class A { } main { if " + a + " { print 1; } else { print 0; } while " + a + " { print 2; return; } }", is ? "1 2" : "0");
            for (String b : values) {
                boolean other = !b.equals("none") && !b.equals("0");
                due(checks, a + " and " + b, is && other ? "1" : "0");
                due(checks, a + " or " + b, is || other ? "1" : "0");
            }
        }
        due(checks, "1 or 1 / 0 or 1 / 0", "1");
        due(checks, "0 and 1 / 0 and 1 / 0", "0");
        due(checks, "0 and 1 / 0 or 3", "1");
        due(checks, "1 or 1 / 0 and 0", "1");
        due(checks, "1 and 0 or 1 and none", "0");
    }

    /** == and != hold for all values. */
    private static void equal(Checks checks) {
        String[] values = {"none", "0", "1", "a", "b"};
        for (int i = 0; i < values.length; i++) {
            for (int k = 0; k < values.length; k++) {
                String text = "class A { } main { let a = new A(); let b = new A(); print " + values[i] + " == " + values[k] + "; print " + values[i] + " != " + values[k] + "; }";
                checks.dueOutput(text, i == k ? "1 0" : "0 1");
            }
        }
        checks.dueOutput("class A { } main { let a = new A(); let b = a; print a == b; print b != a; print a == 1; print 1 == a; }", "1 0 0 0");
    }

    private static void is(Checks checks) {
        checks.dueOutput("class A { } class B under A { } class C under B { } class D { } main { let a = new A(); let b = new B(); let c = new C(); "
                + "print a is A; print a is B; print a is C; print a is D; print b is A; print b is B; print b is C; print c is A; print c is B; print c is C; "
                + "print c is D; print none is A; print 1 is A; print 0 is D; }", "1 0 0 0 1 1 0 1 1 1 0 0 0 0");
        checks.dueOutput("class A { } class B { } aspect P { in B under A; } main { print new B() is A; print new A() is B; }", "1 0");
    }

    /** -5: a WHOLE is wanted on both sides, before -6. */
    private static void wanted(Checks checks) {
        for (String op : "+ - * / % < <= > >=".split(" ")) {
            for (String no : new String[] {"none", "new A()"}) {
                due(checks, "1 " + op + " " + no, "failed -5");
                due(checks, no + " " + op + " 1", "failed -5");
                due(checks, no + " " + op + " " + no, "failed -5");
                due(checks, no + " " + op + " 0", "failed -5");
            }
        }
        due(checks, "- none", "failed -5");
        due(checks, "- new A()", "failed -5");
        due(checks, "- - none", "failed -5");
        due(checks, "not none", "1");
        due(checks, "none == new A()", "0");
        due(checks, "1 + (none + 1)", "failed -5");
        due(checks, "1 / 0 + none", "failed -6");
        due(checks, "none + 1 / 0", "failed -6");
    }

    /** -1: . NAME of what is no OBJECT, when all operands are worked. */
    private static void targets(Checks checks) {
        for (String no : new String[] {"none", "0", "1", "200", "(- 1)"}) {
            due(checks, no + ".x", "failed -1");
            due(checks, no + ".y", "failed -1");
            due(checks, no + ".m(1)", "failed -1");
            due(checks, no + ".nope()", "failed -1");
            checks.dueOutput("class A { field x; } main { " + no + ".x = 1; }", "failed -1");
        }
        due(checks, "none.m(1 / 0)", "failed -6");
        due(checks, "none.x.y", "failed -1");
        checks.dueOutput("main { none.x = 1 / 0; }", "failed -6");
        checks.dueOutput("class A { } main { new A(); 1.x = 2; }", "failed -1");
    }

    /** -2, -3, -4: of the class, or the nearest above; not of one below, nor of another sort. */
    private static void members(Checks checks) {
        String c = "class A { field x; method m() { return 1; } } class B under A { field y; method n(p) { return p; } } class D { field z; method k() { } } main { ";
        String[] acts = {"print new A().y;", "-2", "new A().y = 1;", "-2", "print new B().z;", "-2", "print new A().m;", "-2", "new B().n = 1;", "-2",
                "new A().n(1);", "-3", "new B().k();", "-3", "new A().x();", "-3", "new B().y(1);", "-3", "new A().m(1);", "-4", "new B().m(1);", "-4",
                "new B().n();", "-4", "new B().n(1, 2);", "-4", "new A().n();", "-3"};
        for (int i = 0; i < acts.length; i += 2) {
            checks.dueOutput(c + acts[i] + " }", "failed " + acts[i + 1]);
        }
        checks.dueOutput(c + "let b = new B(); b.x = 1; b.y = 2; print b.x + b.y; print b.m(); print b.n(4); }", "3 1 4");
        // the nearest has other parameters than the one above it: only the nearest counts
        checks.dueOutput("class A { method m() { return 1; } } class B under A { method m(p) { return p; } } main { print new B().m(5); print new B().m(); }", "5 failed -4");
        // the nearest may be the uppermost of twelve
        StringBuilder twelve = new StringBuilder("class C0 { field x; method init(v) { self.x = v; } method m(v) { return self.x + v; } } ");
        for (int i = 1; i < 12; i++) {
            twelve.append("class C").append(i).append(" under C").append(i - 1).append(" { } ");
        }
        checks.dueOutput(twelve + "main { let c = new C11(40); print c.m(2); print c.x; c.x = 1; print c.x; print c is C0; print c.n(); }", "42 40 1 1 failed -3");
        // what aspects tell is told in the class
        checks.dueOutput("class A { field x; method m() { return 1; } } class B under A { } aspect P { in B field x; in B method m() { return self.x; } in A field w; } "
                + "main { let b = new B(); b.x = 2; b.w = 3; print b.m(); print new A().m(); print b.w; }", "2 1 3");
        // the method that runs calls by the class of its OBJECT
        checks.dueOutput("class A { method m() { return self.n(); } method n() { return 1; } } class B under A { method n() { return 2; } } main { print new B().m(); }", "2");
    }

    /** Up to six ARGS, each its own. */
    private static void arguments(Checks checks) {
        checks.dueOutput("class A { method m(a, b, c, d, e, f) { print a; print b; print c; print d; print e; print f; return a + f; } } "
                + "main { print new A().m(1, 2, 3, 4, 5, 6); }", "1 2 3 4 5 6 7");
        checks.dueOutput("class A { method m() { return 9; } } main { print new A().m(); }", "9");
        checks.dueOutput("class A { field x; method init(a, b, c, d, e, f) { self.x = a * b + c * d + e * f; } } main { print new A(1, 2, 3, 4, 5, 6).x; }", "44");
        checks.dueOutput("class A { method m(a, b) { let c = a; a = b; b = c; return a * 10 + b; } } main { let x = 1; let y = 2; print new A().m(x, y); print x; }", "21 1");
        // an argument is worked with what is left of those before it
        checks.dueOutput("class A { method m(a, b, c) { return a * 100 + b * 10 + c; } } main { let a = new A(); print a.m(1, a.m(0, 0, 2), a.m(0, 0, a.m(0, 0, 3))); }", "123");
    }

    /** MAKE: -8 before -4; the nearest init; none takes none. */
    private static void making(Checks checks) {
        String c = "class A { method init(a) { print a; } } class B under A { } class C under B { method init() { print 0; } } class D { } main { ";
        String[] acts = {"new A(1);", "1", "new B(2);", "2", "new C();", "0", "new D();", "", "new A();", "failed -4", "new A(1, 2);", "failed -4", "new B();", "failed -4",
                "new C(1);", "failed -4", "new D(1);", "failed -4", "print new A(3);", "3 #1", "new A(1 / 0);", "failed -6"};
        for (int i = 0; i < acts.length; i += 2) {
            checks.dueOutput(c + acts[i] + " }", acts[i + 1]);
        }
        checks.due("OBJECTS behind -4", Checks.done(c + "new A(); }", true).told(4), 0);
        checks.due("OBJECTS behind an init that fails", Checks.done("class A { method init() { throw 1; } } main { new A(); }", true).told(4), 1);
        // what init returns is not what MAKE gives; a field of that NAME is none
        checks.dueOutput("class A { method init() { return 5; } } class B { field init; } main { print new A(); print new B().init; }", "#1 none");
        checks.dueOutput("class A { } aspect P { in A method init(v) { print v; } } main { new A(4); }", "4");
        // it is numbered before its init makes others
        checks.dueOutput("class A { field o; method init(n) { if n > 0 { self.o = new A(n - 1); } } } main { let a = new A(2); print a; print a.o; print a.o.o; print a.o.o.o; }", "#1 #2 #3 none");
    }

    private static void mostObjects(Checks checks) {
        String text = "class A { field x; method init(v) { self.x = v; } } class D { } main { let n = 0; let a = none; while n < % { n = n + 1; a = new A(n); } print a.x; ";
        checks.dueOutput(text.replace("%", "199") + "print new A(0); }", "199 #200");
        checks.dueOutput(text.replace("%", "200") + "print a; }", "200 #200");
        checks.dueOutput(text.replace("%", "200") + "print new A(0); }", "200 failed -8");
        checks.dueOutput(text.replace("%", "200") + "print new D(); }", "200 failed -8");
        checks.dueOutput(text.replace("%", "200") + "print new A(); }", "200 failed -8");
        checks.dueOutput(text.replace("%", "200") + "new A(1 / 0); }", "200 failed -6");
        checks.dueOutput(text.replace("%", "200") + "try { new D(); } catch e { print e; } try { new A(1); } catch f { print f; } a.x = 5; print a.x; }", "200 -8 -8 5");
        WeaveHouse house = Checks.done(text.replace("%", "201") + "}", false);
        checks.due("OBJECTS", house.told(4), 200);
        checks.due("failure", house.failure(1), -8);
        checks.due("the last's field", house.object(200, 0, 1), 200);
        // those of an earlier RUN are no more
        house.begin(true);
        house.run(2000);
        checks.due("OBJECTS of the next RUN", house.told(4), 200);
    }

    /** 40 bodies may be entered and not left; main is none. */
    private static void mostBodies(Checks checks) {
        String text = "class A { method m(n) { if n > 1 { return self.m(n - 1) + 1; } return 1; } } main { try { print new A().m(%); } catch e { print e; } print 0; }";
        checks.dueOutput(text.replace("%", "39"), "39 0");
        checks.dueOutput(text.replace("%", "40"), "40 0");
        checks.dueOutput(text.replace("%", "41"), "-7 0");
        checks.dueOutput(text.replace("%", "1000"), "-7 0");
        WeaveHouse house = Checks.compiled("class A { method m() { self.m(); } } main { new A().m(); }");
        house.begin(true);
        int[] bodies = new int[42];
        for (int i = 0; i <= 40; i++) {
            bodies[i] = house.run(1) == 1 ? house.told(6) : -1;
        }
        for (int i = 0; i < 40; i++) {
            checks.due("bodies behind " + (i + 1), bodies[i], i + 1);
        }
        checks.due("the 41st", bodies[40], -1);
        checks.due("bodies of what has failed", house.told(6), 0);
        checks.due("failure", house.failure(1), -7);
        checks.due("STEPS", house.told(0), 41);
        // the catch of the innermost body that has one takes it, and may enter again
        checks.dueOutput("class A { method m(n) { if n < 40 { self.m(n + 1); } else { try { self.m(n + 1); } catch e { print e; } } } } main { new A().m(1); print 1; }", "-7 1");
        checks.dueOutput("class A { method m(n) { try { self.m(n + 1); } catch e { print n; self.k(); throw e; } } method k() { print 0; } } "
                + "main { try { new A().m(1); } catch e { print e; } }", "40 " + "39 0 38 0 37 0 36 0 35 0 34 0 33 0 32 0 31 0 30 0 29 0 28 0 27 0 26 0 25 0 24 0 23 0 22 0 21 0 20 0 "
                + "19 0 18 0 17 0 16 0 15 0 14 0 13 0 12 0 11 0 10 0 9 0 8 0 7 0 6 0 5 0 4 0 3 0 2 0 1 0 -7");
        // an init is a body, too
        checks.dueOutput("class A { method init(n) { if n > 1 { new A(n - 1); } } } main { new A(40); print 1; new A(41); }", "1 failed -7");
    }

    /** As many values wait as can: 39 bodies that wait for the 40th, in each 14 calls within one another with a target and five ARGS. */
    private static void deepStack(Checks checks) {
        String calls = Checks.times(14, "self.s(1, 2, 3, 4, 5, ") + "self.r()" + Checks.times(14, ")");
        String text = "class A { field n; method s(a, b, c, d, e, f) { return a + b + c + d + e + f; } method r() { self.n = self.n - 1; if self.n == 0 { return 1000; } "
                + "return " + calls + "; } } main { let a = new A(); a.n = %; print a.r(); }";
        checks.dueOutput(text.replace("%", "1"), "1000");
        checks.dueOutput(text.replace("%", "2"), "" + (1000 + 15 * 14));
        checks.dueOutput(text.replace("%", "39"), "" + (1000 + 15 * 14 * 38));
        checks.dueOutput(text.replace("%", "40"), "" + (1000 + 15 * 14 * 39));
        checks.dueOutput(text.replace("%", "41"), "failed -7");
        // a RUN that begins anew has none of the values that waited
        WeaveHouse house = Checks.compiled(text.replace("%", "40"));
        for (int i = 0; i < 5; i++) {
            house.begin(i % 2 == 0);
            checks.due("run deep", house.run(3 + 3 * 39), 1);
            checks.due("bodies then", house.told(6), 40);
        }
        house.begin(true);
        house.run(2000);
        checks.due("THE OUTPUT then", Checks.output(house), "" + (1000 + 15 * 14 * 39));
        checks.dueOutput("class A { method m(n) { if n == 0 { throw 3; } return 1 + (2 + (3 + (4 + self.m(n - 1)))); } } "
                + "main { let a = new A(); let i = 0; while i < 300 { i = i + 1; try { print 5 + a.m(30); } catch e { } } print i; }", "300");
    }

    /** Each OBJECT has its own value of each field, NONE at first. */
    private static void fieldsOfAll(Checks checks) {
        String fields = Checks.times(10, "field f#; ");
        checks.dueOutput("class A { " + fields + "} class B under A { " + fields + "} main { let a = new A(); let b = new B(); let c = new B(); print b.f9; "
                + "a.f9 = 1; b.f9 = 2; c.f9 = 3; b.f0 = 4; print a.f9; print b.f9; print c.f9; print b.f0; print c.f0; print a.f0; }", "none 1 2 3 4 none none");
    }

    /** LOCALS are other ones each time they begin. */
    private static void localsAnew(Checks checks) {
        checks.dueOutput("main { let n = 2; while n { let a = none; print a; a = n; print a; n = n - 1; } }", "none 2 none 1");
        checks.dueOutput("class A { method m(n) { let a = n; if n > 0 { self.m(n - 1); } print a; a = 9; } } main { new A().m(2); }", "0 1 2");
        checks.dueOutput("main { if 1 { let a = 1; print a; } if 1 { let b = 2; print b; } let a = 3; print a; }", "1 2 3");
        checks.dueOutput("main { let a = 1; if a { a = 2; } print a; let b = a; b = 3; print a; }", "2 2");
        checks.dueOutput("main { " + Checks.times(10, "let x# = #; ") + Checks.times(10, "print x#; ") + "}", "0 1 2 3 4 5 6 7 8 9");
        checks.dueOutput("class A { method m(a, b, c, d, e, f) { let g = 7; let h = 8; let i = 9; try { throw 10; } catch j { print a; print f; print g; print i; print j; } } } "
                + "main { new A().m(1, 2, 3, 4, 5, 6); }", "1 6 7 9 10");
    }

    private static void caught(Checks checks) {
        checks.dueOutput("main { try { } catch e { print 1; } print 2; }", "2");
        checks.dueOutput("main { try { throw none; } catch e { print e; } }", "none");
        checks.dueOutput("main { try { try { throw 1; } catch e { print e; } } catch f { print 9; } }", "1");
        checks.dueOutput("main { try { try { print 0; } catch e { print 9; } throw 2; } catch f { print f; } }", "0 2");
        checks.dueOutput("main { try { try { throw 1; } catch e { throw e + 1; } } catch f { throw f + 1; } }", "failed 3");
        checks.dueOutput("main { try { throw 1; } catch e { try { throw 2; } catch f { print e; print f; } print e; } }", "1 2 1");
        checks.dueOutput("main { try { if 1 / 0 { } } catch e { print e; } try { while none + 1 { } } catch e { print e; } try { let a = - none; } catch e { print e; } "
                + "try { print none.x; } catch e { print e; } try { throw 1 % 0; } catch e { print e; } try { return none.f(); } catch e { print e; } }", "-6 -5 -5 -1 -6 -1");
        checks.dueOutput("class A { method m() { try { throw 1; } catch e { return e; } return 2; } } main { print new A().m(); }", "1");
        checks.dueOutput("class A { method m() { try { return 1; } catch e { print 9; } } } main { print new A().m(); }", "1");
        // what was half worked is gone
        checks.dueOutput("main { let a = 1; try { a = 5 + 1 / 0; } catch e { print a; } try { print 1 + 2 * (3 / 0); } catch e { } print a; }", "1 1");
    }

    private static void dueSteps(Checks checks, String main, int wanted) {
        for (int woven = 0; woven < 2; woven++) {
            WeaveHouse house = Checks.done("class A { method m() { } method k() { return; } } aspect P { before () call \"m\" { } before () call \"k\" { print 1; print 2; } } main { "
                    + main + " }", woven == 1);
            checks.due("STEPS of " + main, house.told(0), wanted);
        }
    }

    /** A STEP is each S that is begun, of a while each look. */
    private static void steps(Checks checks) {
        dueSteps(checks, "", 0);
        dueSteps(checks, "return;", 1);
        dueSteps(checks, "return; return;", 1);
        dueSteps(checks, "throw 1; return;", 1);
        dueSteps(checks, "print 1 / 0; return;", 1);
        dueSteps(checks, "let a = 1; a = 2; print a;", 3);
        dueSteps(checks, "if 0 { return; }", 1);
        dueSteps(checks, "if 1 { return; }", 2);
        dueSteps(checks, "if 0 { return; } else { print 1; print 2; }", 3);
        dueSteps(checks, "if 0 { return; } else if 0 { return; }", 2);
        dueSteps(checks, "if 0 { return; } else if 1 { return; }", 3);
        dueSteps(checks, "if 0 { } else if 0 { } else if 0 { } else { print 1; }", 4);
        dueSteps(checks, "while 0 { return; }", 1);
        dueSteps(checks, "while 1 { return; }", 2);
        dueSteps(checks, "let n = 0; while n < 2 { n = n + 1; }", 1 + 3 + 2);
        dueSteps(checks, "try { } catch e { }", 1);
        dueSteps(checks, "try { print 1; } catch e { print 2; }", 2);
        dueSteps(checks, "try { throw 1; print 1; } catch e { print 2; }", 3);
        dueSteps(checks, "new A();", 1);
        dueSteps(checks, "new A().m();", 1);
        dueSteps(checks, "new A().k();", 4);
    }
}
