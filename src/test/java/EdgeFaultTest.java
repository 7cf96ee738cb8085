/** Terms 2, FAULTS 2 and 4 to 8 at their edges, and which of several FAULTS counts. */
public final class EdgeFaultTest {
    private static final String RICH = "class A under B { field x ; method m ( a , b ) { if a == b { return ; } else if not a { throw - 1 ; } else { return 1 ; } } } "
            + "class B { method n ( ) { } } aspect P each object { field n ; in A field y ; in A method q ( ) { self . x = self . y ; } in B under C ; "
            + "pick p ( o , v ) = self ( o ) and args ( v , * ) or flow ( catch ) and target ( o ) and args ( * , v ) ; "
            + "before ( o , v ) p ( o , v ) and within \"A+.m\" { while v { v = v - 1 ; } } behind ( ) give r ( call \"m\" or get \"x\" ) { print r ; } "
            + "behind ( ) fail f not make \"A\" { n = f ; } around ( w ) args ( w , * ) and if ( ( n ) is A or 2 < 3 ) { go ( w , 1 ) ; go ; } "
            + "bar call \"none\" ; warn set \"A.x\" ; } class C { } order P ; "
            + "main { let a = new A ( ) ; try { a . m ( 1 , 2 ) ; } catch e { print e is A ; } a . x . y = ( 1 + 2 ) * 3 ; new B ( ) ; }";

    public static void main(String[] args) {
        Checks checks = new Checks("EdgeFaultTest");
        beginnings(checks);
        statements(checks);
        told(checks);
        toldLocals(checks);
        meaning(checks);
        unders(checks);
        bound(checks);
        boundByPicks(checks);
        patterns(checks);
        bars(checks);
        samePlace(checks);
        whichCounts(checks);
        noMoreThanItself(checks);
        manyTexts(checks);
        checks.end();
    }

    /** What is the beginning of a text has no FAULT 2 before its end, and one there if it is no text. */
    private static void beginnings(Checks checks) {
        checks.due("compile of the rich text", Checks.fed(RICH).compile() > 0 ? 1 : 0, 1);
        int cuts = 0;
        int ends = 0;
        for (int at = RICH.indexOf(' '); at >= 0; at = RICH.indexOf(' ', at + 1)) {
            WeaveHouse house = Checks.fed(RICH.substring(0, at));
            int answer = house.compile();
            boolean whole = answer >= 0 || answer <= -4;
            checks.due("place of the first " + at + " bytes", whole ? at : house.fault(0), at);
            checks.due("FAULT of the first " + at + " bytes", whole ? -2 : answer, -2);
            cuts++;
            ends += whole ? 1 : 0;
            // a byte that is no TOKEN behind it is a FAULT there
            checks.dueFault(RICH.substring(0, at) + " ^#", 1);
        }
        checks.due("cuts", cuts, RICH.split(" ").length - 1);
        checks.due("cuts behind an ITEM", ends, 5);
        checks.dueSound("", 0);
        checks.dueSound("  \n ", 0);
    }

    /** An E ; is a call, new or go alone; before = stands a NAME alone, or a field. */
    private static void statements(Checks checks) {
        String m = "class A { method m() { let a = self; let b = a; % } }";
        for (String e : new String[] {"1", "none", "self", "a", "a.x", "a.f().x", "a + b", "a.f() + b.f()", "not a.f()", "- a.f()", "a.f() is A", "(a)",
                "(a.f())", "(new A())", "a and b.f()", "a == b", "new A().x", "a.x.y"}) {
            checks.dueFault(m.replace("%", e + " ^;"), 2);
            checks.dueFault(m.replace("%", "a.f(); " + e + " ^;"), 2);
        }
        for (String e : new String[] {"1", "none", "self", "a.f()", "a.x.f()", "new A()", "a + b", "a + b.x", "not a", "- a.x", "a is A", "a.x is A", "(a)", "(a.x)"}) {
            checks.dueFault(m.replace("%", e + " ^= 1;"), 2);
            checks.dueFault(m.replace("%", "a.x = 1; " + e + " ^= 1;"), 2);
        }
        checks.dueFault("aspect P { around () catch { go ^= 1; } }", 2);
        checks.dueFault("aspect P { around () catch { go + 1 ^; } }", 2);
        checks.dueFault("aspect P { around () catch { (go) ^; } }", 2);
        checks.dueFault("aspect P { around () catch { go() is A ^; } }", 2);
        checks.dueFault("aspect P { around () catch { go.x ^; } }", 2);
        checks.dueSound("class A { } aspect P { around () catch { go; go(1); go.x = 1; go.f(); new A(); new A().x = 2; new A().f(); (go).x = 1; 1.f(); } }", 9);
        for (String s : new String[] {"print a ^= 1;", "return a ^= 1;", "throw a ^= 1;", "let c = a ^= 1;", "a = b ^= 1;", "if a ^= 1 { }", "while a ^= 1 { }",
                "a ^b.f();", "a.f() ^a.f();", "a ^1;", "a ^}", "a.f() ^}", "a ^{ }", "a.f() ^, a.f();", "1 ^)", "print a ^} }", "a.f(1 ^;"}) {
            checks.dueFault(m.replace("%", s), 2);
        }
    }

    private static void told(Checks checks) {
        checks.dueFault("class A { } class B { } class ^A { }", 4);
        checks.dueFault("class A { } class ^A { } class A { }", 4);
        checks.dueFault("class A { } aspect B { } aspect ^A { }", 4);
        checks.dueFault("aspect A { } class B { } class ^A { }", 4);
        checks.dueFault("main { } class A { } ^main { } main { }", 4);
        checks.dueSound("class A { method A() { } field main1; } aspect B { field B; pick A() = catch; in A field B; }", 1);
        checks.dueFault("class A { field a; field b; field ^a; }", 4);
        checks.dueFault("class A { method a() { } field ^a; }", 4);
        checks.dueFault("class A { method a() { } method b() { } method ^a() { } }", 4);
        checks.dueFault("class A { field a; } aspect P { in A method ^a() { } }", 4);
        checks.dueFault("class A { method a() { } } aspect P { in A field ^a; }", 4);
        checks.dueFault("aspect P { in A method a() { } in A field ^a; } class A { }", 4);
        checks.dueFault("aspect P { in A method a() { } } class A { field b; field ^a; }", 4);
        checks.dueSound("class A { field a; } class B { field a; } class C under A { method a() { } } aspect P { in B method b() { } in A method b() { } }", 3);
        checks.dueFault("aspect P { field a; pick a() = catch; field b; field ^a; }", 4);
        checks.dueFault("aspect P { pick a() = catch; field a; pick b() = catch; pick ^a() = catch; }", 4);
        checks.dueSound("aspect P { field a; pick a() = catch; } aspect Q { field a; pick a() = catch; }", 0);
        checks.dueFault("class A { method m(a, b, ^b) { } }", 4);
        checks.dueFault("class A { method m(a, ^a, b, b) { } }", 4);
        checks.dueSound("class A { method m(a, b) { } method n(b, a, m, A) { } }", 2);
        checks.dueFault("aspect P { around (a, ^a) args(a) { } }", 4);
        checks.dueFault("aspect P { behind (a, b) fail ^b args(a, b) { } }", 4);
        checks.dueSound("aspect P { before (a) args(a) { } behind (a) give b args(a) { } behind () fail a catch { } pick a(a) = args(a); }", 0);
        checks.dueFault("aspect P { } aspect Q { } order P, ^P, Q;", 4);
        checks.dueFault("order P; order Q; order ^Q; aspect P { } aspect Q { }", 4);
        checks.dueSound("order Q, P; order R; aspect P { } aspect Q { } aspect R { }", 0);
    }

    /** A LOCAL is known from behind its let to the end of its BLOCK; a catch's NAME, a parameter in their BLOCKS. */
    private static void toldLocals(Checks checks) {
        checks.dueFault("main { let a = 1; while a { let ^a = 2; } }", 4);
        checks.dueFault("main { let a = 1; if 1 { } else { let ^a = 2; } }", 4);
        checks.dueFault("main { let a = 1; try { let ^a = 2; } catch e { } }", 4);
        checks.dueFault("main { try { } catch e { try { } catch ^e { } } }", 4);
        checks.dueFault("main { try { } catch e { if 1 { let ^e = 1; } } }", 4);
        checks.dueFault("class A { method m(a) { try { } catch ^a { } } }", 4);
        checks.dueFault("class A { method m(a) { if 1 { let ^a = 1; } } }", 4);
        checks.dueFault("aspect P { before (o) self(o) { let ^o = 1; } }", 4);
        checks.dueFault("aspect P { behind () give r catch { try { } catch ^r { } } }", 4);
        checks.dueSound("main { if 1 { let a = 1; } else { let a = 1; } while 0 { let a = 1; } try { let a = 1; } catch a { } try { } catch a { } let a = 1; }", 2);
        checks.dueSound("main { let a = 1; } class A { method a(a) { } method m() { let a = 1; } } aspect P { field a; before (a) args(a) { } around () catch { let a = a; } }", 2);
        checks.dueFault("main { let a = ^a; }", 5);
        checks.dueFault("main { let a = 1 + ^a; }", 5);
        checks.dueFault("main { if 1 { let a = 1; } ^a = 1; }", 5);
        checks.dueFault("main { if 1 { let a = 1; } else { print ^a; } }", 5);
        checks.dueFault("main { while ^a { let a = 1; } }", 5);
        checks.dueFault("main { try { let a = 1; } catch e { print ^a; } }", 5);
        checks.dueFault("main { try { print ^e; } catch e { } }", 5);
        checks.dueFault("main { try { } catch e { } ^e.f(); }", 5);
        checks.dueFault("main { print ^a; let a = 1; }", 5);
        checks.dueFault("class A { method m(a) { } method n() { print ^a; } }", 5);
        checks.dueFault("main { let a = 1; } class A { method n() { print ^a; } }", 5);
        checks.dueFault("aspect P { before (o) self(o) { } before () catch { print ^o; } }", 5);
        checks.dueFault("aspect P { pick p(o) = self(o); before () catch { print ^o; } }", 5);
        checks.dueFault("aspect P { behind () give r catch { } behind () catch { print ^r; } }", 5);
    }

    private static void meaning(Checks checks) {
        String p = "class A { } aspect P { field n; pick p() = catch; % } aspect Q { field m; pick q() = catch; }";
        for (String s : new String[] {"before () catch { print ^m; }", "before () catch { ^m = 1; }", "before () if (^m) { }", "warn if (^m);", "bar if (n and ^q);",
                "pick r() = if (^p);", "before () ^q() { }", "bar ^q();", "warn not ^n();", "before () self(^n) { }", "before () target(^Q) { }",
                "before () args(A, ^p) { }", "in ^P field x;", "in ^B field x;", "in ^n method x() { }", "in A under ^Q;", "in ^Q under A;",
                "in A method x() { print ^n; }", "in A method x() { ^n = 1; }", "before () catch { print 1 is ^Q; }", "before () catch { new ^Q(); }",
                "before () catch { print ^A; }", "around () catch { print ^self; }", "around () catch { ^self.x = 1; }", "behind () catch { ^go; }",
                "behind () fail f catch { ^go(f); }", "in A method x() { ^go; }", "before (o) self(o) { } before () if (^o) { }",
                "pick r(o) = self(o); warn if (^o);", "before (o) ^p(o) { }", "before (o, u) ^r(o) and self(u) { } pick r(o, u) = args(o, u);",
                "before () r(^n) { } pick r(o) = self(o);", "before () r(^A) { } pick r(o) = self(o);"}) {
            checks.dueFault(p.replace("%", s), 5);
        }
        for (String s : new String[] {"before () catch { print n; n = 1; }", "warn p() and if (n);", "before () self(A) or target(A) or args(A) { }", "in A under B;",
                "around () catch { go; if 1 { print go; } }", "before (A) self(A) and if (A) { }", "before () r() { } pick r() = catch;"}) {
            checks.due("compile with " + s, Checks.fed(p.replace("%", s) + " class B { }").compile() >= 0 ? 1 : 0, 1);
        }
        checks.dueFault("order P, ^A; class A { } aspect P { }", 5);
        checks.dueFault("order ^Q; aspect P { }", 5);
        checks.dueFault("class A { method m() { print self; } } main { print ^self; }", 5);
        checks.dueFault("main { ^self.f(); }", 5);
        checks.dueFault("main { print 1 + ^go; }", 5);
        // more than six NAMES behind a pick's are another number
        checks.dueFault("aspect P { pick p(a, b, c, d, e, f) = args(a, b, c, d, e, f); before () ^p(a, b, c, d, e, f, g) { } }", 5);
    }

    /** The unders of classes are taken first, then those of aspects, as they stand, without those that are wrong. */
    private static void unders(Checks checks) {
        checks.dueFault("class A under ^A { }", 5);
        checks.dueFault("class A { } aspect P { in A under ^A; }", 5);
        checks.dueFault("class A { } class B under A { } aspect P { in A under ^B; }", 5);
        checks.dueFault("class A under B { } class B under C { } class C under D { } class D under ^A { }", 5);
        // a class with the number 0 above it has one, too
        checks.dueFault("class A { } class B under A { } class C { } aspect P { in B under ^C; }", 4);
        checks.dueFault("class A { } class B under A { } aspect P { in B under ^A; }", 4);
        checks.dueFault("class A { } class B { } aspect P { in B under A; in B under ^A; }", 4);
        checks.dueFault("class A { } class B { } aspect P { in B under A; } aspect Q { in B under ^B; }", 4);
        checks.dueFault("aspect P { in B under ^A; } class A { } class B under A { }", 4);
        // what is wrong is none: not above itself, not known, and so there is room
        checks.dueFault("class B { } aspect P { in A under B; } class A under ^A { }", 5);
        checks.dueFault("class B { } aspect P { in A under B; } class A under ^X { }", 5);
        checks.dueFault("class A { } class B { } aspect P { in A under ^X; in A under B; in A under B; }", 5);
        checks.dueFault("class A { } class B { } aspect P { in A under B; in B under ^A; in B under A; }", 5);
        WeaveHouse house = Checks.compiled(twelve());
        for (int k = 0; k < 12; k++) {
            checks.due("above " + k, house.above(k), k == 11 ? -1 : k + 1);
        }
        checks.dueFault(twelve().replace("class C11 {", "class C11 under ^C0 {"), 5);
        checks.dueFault(twelve() + "aspect P { in C11 under ^C5; }", 5);
        checks.dueFault(twelve() + "aspect P { in C5 under ^C11; }", 4);
        // a class that is told a second time is above nothing by that
        checks.dueFault("class A { } class B under A { } class ^A under B { }", 4);
        checks.dueFault("aspect P { in A under B; } class A { } class B { } class ^A under B { }", 4);
    }

    private static String twelve() {
        StringBuilder all = new StringBuilder();
        for (int i = 0; i < 11; i++) {
            all.append("class C").append(i).append(" under C").append(i + 1).append(" { } ");
        }
        return all.append("class C11 { } ").toString();
    }

    private static void bound(Checks checks) {
        String p = "class C { } aspect P { field n; before (o, v) % { } }";
        for (String good : new String[] {"args(o, v)", "args(v, o)", "self(o) and target(v)", "args(*, o, C, v, *, *)", "(self(o) and args(v)) and catch",
                "self(o) and (args(v) or target(v))", "args(o, v) or args(v, o)", "(self(o) or target(o)) and (args(v) or args(*, v))",
                "args(o, v) or self(o) and target(v) or args(v) and self(o)", "not catch and self(o) and flow (catch) and target(v) and if (o == v)"}) {
            checks.dueSound(p.replace("%", good), 0);
        }
        for (String bad : new String[] {"self(o)", "args(v)", "catch", "if (o == v)", "args(o, o)", "args(o, v, o)", "args(o, o, v)", "args(v, o, o)",
                "self(o) and target(o) and args(v)", "self(o) and args(v) and target(o)", "args(v) and self(o) and target(v)",
                "self(o) and args(o, v)", "args(o, v) and (catch or self(o))", "args(o, v) or self(o)", "self(o) or args(o, v)", "args(o, v) or catch",
                "catch or args(o, v)", "args(o, v) or args(o, v) or catch", "args(o, v) or catch or args(o, v)", "catch or args(o, v) or args(v, o)",
                "self(o) or args(v)", "(self(o) and if (v)) or args(v)", "(args(o, v) or catch) and if (1)"}) {
            checks.dueFault(p.replace("before", "^before").replace("%", bad), 6);
        }
        String one = "class C { } aspect P { before (o) % { } }";
        for (String shut : new String[] {"not self(^o)", "not not self(^o)", "not (target(^o) or self(o))", "not args(*, ^o)", "flow (self(^o))", "flow (catch and args(^o))",
                "flow (not args(C, ^o))", "not flow (target(^o))", "catch and not (self(C) and self(^o))"}) {
            checks.dueFault(one.replace("%", shut), 6);
        }
        checks.dueFault(one.replace("before", "^before").replace("%", "not (catch or target(o))"), 6);
        for (String word : new String[] {"before", "behind", "around"}) {
            checks.dueFault("aspect P { field n; ^" + word + " (o) catch { } }", 6);
            checks.dueSound("aspect P { field n; " + word + " (o) self(o) { } }", 0);
        }
        // that of give, fail may be named, but not bound
        for (String word : new String[] {"give", "fail"}) {
            checks.dueSound("aspect P { behind (o) " + word + " r self(o) and if (r == none) { } }", 0);
            checks.dueSound("aspect P { behind (o) " + word + " r self(o) and not if (r) and flow (if (r)) { } }", 0);
            checks.dueFault("aspect P { ^behind (o) " + word + " r args(o, r) { } }", 6);
            checks.dueFault("aspect P { ^behind (o) " + word + " r self(r) { } }", 6);
            checks.dueFault("aspect P { pick p(a) = self(a); ^behind () " + word + " r p(r) { } }", 6);
            checks.dueFault("class r { } aspect P { ^behind () " + word + " r self(r) { } }", 6);
            checks.dueFault("aspect P { ^behind (o) " + word + " r catch { } }", 6);
        }
    }

    /** A pick that is named binds all NAMES that are told to it, also one that is wrong itself. */
    private static void boundByPicks(Checks checks) {
        String p = "aspect P { pick two(a, b) = args(a, b); pick one(a) = self(a); %(o, v) # { } }";
        for (String good : new String[] {"two(o, v)", "two(v, o)", "one(o) and one(v)", "one(o) and target(v)", "two(o, v) or args(v, o)", "catch and (two(o, v))"}) {
            checks.dueSound(p.replace("%", "before ").replace("#", good), 0);
        }
        for (String bad : new String[] {"one(o)", "two(o, o)", "one(o) and two(o, v)", "two(o, v) or one(o)", "two(o, v) and two(o, v)", "one(o) and one(o) and one(v)"}) {
            checks.dueFault(p.replace("%", "^before ").replace("#", bad), 6);
        }
        checks.dueFault(p.replace("%", "before ").replace("#", "not two(^o, v)"), 6);
        checks.dueFault("aspect P { pick one(a) = self(a); before (v) catch and not one(^v) { } }", 6);
        checks.dueFault("aspect P { pick one(a) = self(a); before (v) not (catch and one(^v)) { } }", 6);
        checks.dueFault("aspect P { before (o) ^none1(o) { } }", 5);
        checks.dueFault("aspect P { before (o, v) ^p(o, v) { } pick p(a) = self(a); }", 5);
        checks.dueFault("aspect P { before (o) p(o) { } pick ^p(a) = catch; }", 6);
        checks.dueFault("aspect P { before (o) self(o) { } pick p(a) = self(a); pick ^q(a) = self(a) and target(a); before (o) self(o) { } }", 6);
        checks.dueFault("aspect P { pick ^q(a) = catch; pick p(a) = self(a); }", 6);
        checks.dueFault("aspect P { pick q(a) = self(a); pick p(a) = flow (self(^a)); }", 6);
        checks.dueFault("aspect P { pick ^q(a, b) = self(a) or target(a) and args(b); }", 6);
        checks.dueSound("aspect P { pick q(a, b) = self(a) and args(b) or target(a) and args(b); }", 0);
    }

    private static void patterns(Checks checks) {
        for (String head : new String[] {"before () % { }", "around () % { }", "pick p() = %;", "bar %;", "warn not (%);", "bar flow (%);"}) {
            String p = "aspect P { " + head + " }";
            for (String word : new String[] {"call", "run", "get", "set"}) {
                checks.dueFault(p.replace("%", word + " ^\"a+\""), 7);
                checks.dueFault(p.replace("%", word + " ^\"*+\""), 7);
                checks.dueSound(p.replace("%", word + " \"a+.b\" and " + word + " \"a.b\" and " + word + " \"a\""), 0);
            }
            checks.dueFault(p.replace("%", "make ^\"a.b\""), 7);
            checks.dueFault(p.replace("%", "make ^\"a+.b\""), 7);
            checks.dueSound(p.replace("%", "make \"a\" or make \"a+\""), 0);
            checks.dueSound(p.replace("%", "within \"a\" or within \"a+\" or within \"a.b\" or within \"a+.b\""), 0);
        }
    }

    /** A bar that is 1 at some POINT, if there is no other FAULT; one that is 2, and a warn, may be. */
    private static void bars(Checks checks) {
        String c = "class C { field x; method m(a) { self.x = a; } } main { try { new C(1); } catch e { } } ";
        for (String one : new String[] {"run \"m\"", "set \"x\"", "catch", "make \"C\"", "within \"main\"", "not call \"*\"", "if (1) or catch", "p()", "flow (catch)",
                "args() or args(*)", "self(C)", "run \"*\" and target(C)", "not flow (call \"*\")"}) {
            checks.dueFault(c + "aspect P { pick p() = catch and args(*); ^bar " + one + "; }", 8);
            checks.dueSound(c + "aspect P { pick p() = catch and args(*); warn " + one + "; }", 4);
        }
        for (String other : new String[] {"call \"m\"", "if (1)", "set \"*.x\"", "args(C)", "get \"x\"", "flow (run \"m\" and if (1))", "make \"D\"", "catch and if (1)",
                "self(D)", "within \"P\""}) {
            checks.dueSound(c + "class D { } aspect P { bar " + other + "; }", 4);
        }
        checks.dueFault(c + "aspect P { warn catch; bar if (1); ^bar catch; bar make \"C\"; }", 8);
        checks.dueFault(c + "aspect P { bar catch; bar not ^q(); }", 5);
        checks.dueFault(c + "aspect P { bar catch; } aspect ^P { }", 4);
        checks.dueFault(c + "aspect P { bar catch; ^before (o) catch { } }", 6);
        checks.dueFault(c + "aspect P { bar catch; warn call ^\"m+\"; }", 7);
        // without POINTS no bar is 1 at one
        checks.dueSound("aspect P { bar not catch; bar if (1); bar flow (not catch); }", 0);
        // the only one at which it is 1 is the first, or the last
        String most = "main { let a = 1; a.first" + Checks.times(398, ".x") + ".last = 1; } aspect P { % }";
        checks.dueFault(most.replace("%", "^bar get \"first\";"), 8);
        checks.dueFault(most.replace("%", "^bar set \"last\";"), 8);
        checks.dueSound(most.replace("%", "bar set \"first\"; bar get \"last\";"), 400);
    }

    /** Of one place the least number. */
    private static void samePlace(Checks checks) {
        checks.dueFault("class A { } class B under A { } aspect P { in B under ^X; }", 4);
        checks.dueFault("aspect P { pick p() = catch; pick ^p(o) = catch; }", 4);
        checks.dueFault("aspect P { before () not p(^x) { } pick p(a) = self(a); }", 5);
        checks.dueFault("class ^1x { }", 1);
        checks.dueFault(Checks.times(12, "class C# { } ") + "class ^1x { }", 1);
        checks.dueFault("main { none.f(1, 2, 3, 4, 5, 6, ^1x); }", 1);
        checks.dueFault("main { " + Checks.times(16, "try { ") + "^1x", 1);
    }

    /** The least place, whatever the number; but 1 to 3 before 4 to 7, and those before 8. */
    private static void whichCounts(Checks checks) {
        checks.dueFault("class A { } class A { } main { print x; } aspect P { before (o) call \"a+\" { } bar if (1); } ^;", 2);
        checks.dueFault("class A { } class ^A { } main { print x; } aspect P { before (o) call \"a+\" { } }", 4);
        checks.dueFault("main { print ^x; } class A { } class A { } aspect P { before (o) call \"a+\" { } }", 5);
        checks.dueFault("aspect P { ^before (o) call \"a+\" { print x; } } class A { } class A { }", 6);
        checks.dueFault("aspect P { before () call ^\"a+\" { print x; } before (o) catch { } } class A { } class A { }", 7);
        checks.dueFault("class A { method m(a) { let ^a = b; } }", 4);
        checks.dueFault("class A { method m(a) { let b = ^c; let a = 1; } }", 5);
        checks.dueFault("aspect P { ^before (o) args(*, X) and q() { print x; go; } }", 6);
        checks.dueFault("aspect P { before (o) args(o, ^X) and q() { print x; go; } }", 5);
        checks.dueFault("main { } main { x ^; }", 2);
        checks.dueFault("main { } ^main { print x; }", 4);
    }

    /** A FAULT leaves nothing behind that would change what is compiled next in the same object. */
    private static void noMoreThanItself(Checks checks) {
        String[] wrong = {"class A { ", "class A { method m(", "aspect P { ", "aspect P { in A ", "aspect P { before () if (", "aspect P { before () if (1", "aspect P { bar if (not ",
                "main { let a = 1; ", "aspect P { before (o) self(o) and target(o) { } }", "aspect P { pick p(o) = catch; }", "aspect P { pick p(a, b) = self(a) and self(a); }",
                "class A { } class A { }", "order P;", "aspect P { bar not catch; } main { try { } catch e { } new A(); } class A { }", "!", "main { } main { }",
                "class A { method m() { go; self.x = y; } }", "aspect P { around () catch { go; } } main { go; }"};
        String sound = "class A { field x; method m(a) { self.x = a; return self.x + new A().n(); } method n() { return 1; } } main { let a = new A(); print a.m(4); } "
                + "aspect P { pick p(o) = target(o); before (v) p(v) and call \"m\" and if (1) { print v; } }";
        for (String text : wrong) {
            WeaveHouse house = new WeaveHouse();
            for (int i = 0; i < 3; i++) {
                Checks.feed(house, text);
                checks.due("FAULT of " + text, house.compile() < 0 ? 1 : 0, 1);
                house.wipe();
                Checks.feed(house, sound);
                checks.due("compile behind " + text, house.compile(), 8);
                checks.due("place behind " + text, house.fault(0), -1);
                house.begin(i == 1);
                house.run(2000);
                checks.due("THE OUTPUT behind " + text, Checks.output(house), "#1 5");
                house.wipe();
            }
        }
    }

    /** However many NAMES and PATTERNS other texts had: there is room for those of the next. */
    private static void manyTexts(Checks checks) {
        WeaveHouse house = new WeaveHouse();
        for (int i = 0; i < 350; i++) {
            String text = " ".repeat(i) + "class C% { field f%; method m%(p%) { self.f% = p%; } } class D% { } aspect P% { in C% under D%; pick k%(o%) = target(o%) and args(*) and set \"C%.f%\"; "
                    + "before (t%) k%(t%) and within \"C%.m%\" { print t%; } before () args(*, *) { } warn make \"C%+\"; } main { let a% = new C%(); a%.m%(" + i + "); print a%.f%; "
                    + Checks.times(9, "let l#% = 1; ") + "} order P%;";
            house.wipe();
            Checks.feed(house, text.replace("%", "x" + i));
            checks.due("compile " + i, house.compile(), 5);
            house.begin(i % 2 == 0);
            house.run(2000);
            checks.due("THE OUTPUT " + i, Checks.output(house), "#1 " + i);
        }
    }
}
