/** Promises 4 and 5: each FAULT, its place (that of the mark ^) and its LINE; and what is none. */
public final class FaultTest {
    private static final String A = "class A { field x; method f(a) { } } ";

    public static void main(String[] args) {
        Checks checks = new Checks("FaultTest");
        tokens(checks);
        grammar(checks);
        pickGrammar(checks);
        limits(checks);
        locals(checks);
        nested(checks);
        told(checks);
        meaning(checks);
        unders(checks);
        bound(checks);
        patterns(checks);
        bars(checks);
        whichCounts(checks);
        checks.end();
    }

    private static String times(int n, String text) {
        return Checks.times(n, text);
    }

    private static void tokens(Checks checks) {
        checks.dueSound("// a remark up to the end", 0);
        checks.dueSound("main\t{\r\n}// !!! \"\n//", 0);
        checks.dueSound("class abcdefghijkl { } class aAzZ09 { }", 0);
        checks.dueSound("class classA { field main1; }", 0);
        checks.dueSound("main { print 999999999; print 000000001; }", 0);
        checks.dueFault("class ^abcdefghijklm { }", 1);
        checks.dueFault("main { print ^1234567890; }", 1);
        checks.dueFault("main { print ^12a; }", 1);
        checks.dueFault("main { print 1 ^! 2; }", 1);
        checks.dueFault("main {\n\n ^# }", 1);
        checks.dueFault("main { print 1 / ^/ 2; }", 2);
        checks.dueFault("main { print 1 // 2; }^", 2);
        checks.dueSound("main { print 1 // 2\n ; }", 0);
        checks.dueFault("^\u0000", 1);
        checks.dueFault("^\u00e4", 1);
        checks.dueFault("main { print a^_; }", 1);
        String p = "aspect P { before () call %s { } }";
        for (String good : new String[] {"\"a\"", "\"*\"", "\"abcdefghijkl\"", "\"A.b\"", "\"A+.b\"", "\"1*2.**\"", "\"A.abcdefghijkl\"", "\"aAzZ09*.aAzZ09*\""}) {
            checks.dueSound(p.replace("%s", good), 0);
        }
        for (String bad : new String[] {"\"\"", "\"+\"", "\"a", "\"a b\"", "\"abcdefghijklm\"", "\"A.\"", "\".b\"",
                "\"A++\"", "\"A.b+\"", "\"A.b.c\"", "\"A.abcdefghijklm\"", "\"a\n\""}) {
            checks.dueFault(p.replace("%s", "^" + bad), 1);
        }
    }

    private static void grammar(Checks checks) {
        checks.dueFault("^x", 2);
        checks.dueFault("main^", 2);
        checks.dueFault("main {  ^", 2);
        checks.dueFault("main { } ^}", 2);
        checks.dueFault("class ^{ }", 2);
        checks.dueFault("class ^if { }", 2);
        checks.dueFault("class A ^( )", 2);
        checks.dueFault("class A under ^{ }", 2);
        checks.dueFault("class A { ^pick }", 2);
        checks.dueFault("class A { field x ^}", 2);
        checks.dueFault("class A { field x^, y; }", 2);
        checks.dueFault("class A { method f ^{ } }", 2);
        checks.dueFault("class A { method f(a,^) { } }", 2);
        checks.dueFault("class A { method f(^1) { } }", 2);
        checks.dueFault("class A { method f(a ^b) { } }", 2);
        checks.dueFault("aspect P each ^{ }", 2);
        checks.dueFault("aspect P { ^method f() { } }", 2);
        checks.dueFault("aspect P { in A ^pick }", 2);
        checks.dueFault("aspect P { in A under B ^}", 2);
        checks.dueFault("order ^;", 2);
        checks.dueFault("order A,^;", 2);
        checks.dueFault("main { let ^= 1; }", 2);
        checks.dueFault("main { let x ^; }", 2);
        checks.dueFault("main { print ^; }", 2);
        checks.dueFault("main { print 1 ^}", 2);
        checks.dueFault("main { throw ^; }", 2);
        checks.dueFault("main { return 1 ^2; }", 2);
        checks.dueFault("main { if 1 ^print 1; }", 2);
        checks.dueFault("main { if 1 { } else ^print 1; }", 2);
        checks.dueFault("main { try { } ^}", 2);
        checks.dueFault("main { try { } catch ^{ } }", 2);
        checks.dueFault("main { ^= 1; }", 2);
        checks.dueFault("main { ^; }", 2);
        statements(checks);
        operators(checks);
    }

    /** An E before ; or = that is none of those told is a FAULT there. */
    private static void statements(Checks checks) {
        checks.dueFault("main { let a = 1; a ^; }", 2);
        checks.dueFault("main { let a = 1; a.x ^; }", 2);
        checks.dueFault("main { 1 + 2 ^; }", 2);
        checks.dueFault("main { 1 ^= 2; }", 2);
        checks.dueFault("main { let a = 1; a.f() ^= 2; }", 2);
        checks.dueFault("main { let a = 1; a.f() + 1 ^; }", 2);
        checks.dueFault("main { let a = 1; not a.f() ^; }", 2);
        checks.dueFault("main { let a = 1; -a.x ^= 1; }", 2);
        checks.dueFault("main { let a = 1; 1 + a.x ^= 1; }", 2);
        checks.dueFault("class A { } main { let a = 1; a.f() is A ^; }", 2);
        checks.dueFault("class A { } main { let a = 1; a is A ^= 1; }", 2);
        checks.dueFault("main { let a = 1; a = 1 ^= 2; }", 2);
        checks.dueFault("main { let a = 1; a ^) }", 2);
        checks.dueFault("main { let a = 1; (a.f()) ^; }", 2);
        checks.dueFault("main { let a = 1; (a) ^= 2; }", 2);
        checks.dueSound("main { let a = 1; (a).x = 2; (a).f(); 1.x = 3; a.f().y = 4; }", 5);
        checks.dueSound("class A { } main { new A(); new A().f(); } aspect P { around () catch { go; go(); go.f(); } }", 4);
    }

    private static void operators(Checks checks) {
        checks.dueFault("main { print 1 + ^; }", 2);
        checks.dueFault("main { print 1 + ^* 2; }", 2);
        checks.dueFault("main { print not ^; }", 2);
        checks.dueFault("main { print 1 ^not 2; }", 2);
        checks.dueFault("main { print (1 ^; }", 2);
        checks.dueFault("main { print 1.^2; }", 2);
        checks.dueFault("main { print none.f(1,^); }", 2);
        checks.dueFault("main { print none.f(^,); }", 2);
        checks.dueFault("main { print new ^none; }", 2);
        checks.dueFault("class A { } main { print new A ^; }", 2);
        checks.dueFault("class A { } main { print 1 is A ^is A; }", 2);
        checks.dueFault("class A { } main { print 1 is A ^.x; }", 2);
        checks.dueFault("class A { } main { print 1 is ^1; }", 2);
        checks.dueSound("class A { } main { print not - 1 is A == 2 is A and - - not not 3 is A; }", 0);
    }

    private static void pickGrammar(Checks checks) {
        String p = "aspect P { before () % { } }";
        checks.dueFault("aspect P { before () ^{ } }", 2);
        for (String bad : new String[] {"catch ^catch", "catch and ^and catch", "catch or ^{ }", "not ^or", "call ^x", "call ^(",
                "flow ^catch", "(catch ^{ }", "self ^A", "self(^1)", "self(A^, A)", "args(^1)", "args(A^*)", "args(*,^)", "if ^1",
                "if (^)", "p ^and catch", "p(^*)", "p(x,^)", "flow (^p())", "flow (^flow (catch))", "flow (not ^p())", "if (^self)",
                "if (^new A())", "if (^go)", "if (1^.x)", "if ((1)^.f())", "if ((1^.x))", "if (1 ^;)", "^within1"}) {
            checks.dueFault(p.replace("%", bad).replace("^within1", "within ^1"), 2);
        }
        checks.dueFault("aspect P { pick p() = ^q(); }", 2);
        checks.dueFault("aspect P { pick p() = flow (not (^q())); }", 2);
        checks.dueFault("aspect P { pick p() = catch ^{ } }", 2);
        checks.dueFault("aspect P { pick p() ^catch; }", 2);
        checks.dueFault("aspect P { bar ^; }", 2);
        checks.dueFault("aspect P { before () call ^{ } }", 2);
        checks.dueFault("aspect P { warn catch ^{ } }", 2);
        checks.dueFault("aspect P { behind () give ^catch { } }", 2);
        checks.dueFault("aspect P { before () ^give x catch { } }", 2);
        checks.dueFault("aspect P { around () catch ^; }", 2);
        checks.dueSound("class A { } aspect P { field n; pick p() = flow (catch or args() and args(*, A)) and if ((n) is A or none); "
                + "before () not not p() and (flow (if (1 < 2)) or self(A)) { } bar p() and flow (make \"A\") and get \"A.x\"; }", 0);
    }

    private static void limits(Checks checks) {
        checks.dueSound(times(12, "class C# { } "), 0);
        checks.dueFault(times(12, "class C# { } ") + "class ^C { }", 3);
        checks.dueSound(times(8, "aspect C# { } "), 0);
        checks.dueFault(times(8, "aspect C# { } ") + "aspect ^C { }", 3);
        checks.dueSound("class A { " + times(10, "field f#; ") + "}", 0);
        checks.dueFault("class A { " + times(10, "field f#; ") + "field ^f; }", 3);
        checks.dueFault("aspect P { " + times(6, "in A field g#; ") + "} class A { " + times(4, "field f#; ") + "field ^f; }", 3);
        checks.dueFault("class A { " + times(6, "field f#; ") + "} aspect P { " + times(4, "in A field g#; ") + "in A field ^f; }", 3);
        checks.dueSound("class B { " + times(10, "field f#; ") + "} class A under B { " + times(10, "field f#; ") + "}", 0);
        checks.dueFault("aspect A { " + times(10, "field f#; ") + "field ^f; }", 3);
        checks.dueSound("class A { " + times(60, "method m#() { } ") + "}", 60);
        checks.dueFault("class A { " + times(60, "method m#() { } ") + "} aspect P { in A method ^m() { } }", 3);
        checks.dueSound("aspect P { " + times(24, "before () catch { } ") + "}", 0);
        checks.dueFault("aspect P { " + times(24, "before () catch { } ") + "^around () catch { } }", 3);
        checks.dueFault("aspect P { " + times(24, "pick p#() = catch; ") + "pick ^p() = catch; }", 3);
        checks.dueSound("aspect P { " + times(6, "bar catch; warn catch; ") + "}", 0);
        checks.dueFault("aspect P { " + times(6, "bar catch; warn catch; ") + "^bar catch; }", 3);
        parameters(checks);
        manyTokens(checks);
        manyPoints(checks);
    }

    private static void parameters(Checks checks) {
        checks.dueSound("class A { method f(a, b, c, d, e, g) { } }", 1);
        checks.dueFault("class A { method f(a, b, c, d, e, g, ^h) { } }", 3);
        checks.dueFault("class A { method f(a, b, c, d, e, g, ^1) { } }", 2);
        checks.dueFault("aspect P { pick p(a, b, c, d, e, g, ^h) = catch; }", 3);
        checks.dueFault("aspect P { around (a, b, c, d, e, g, ^h) catch { } }", 3);
        checks.dueSound("aspect P { behind (a, b, c, d, e) give g args(a, b, c, d, e) { } }", 0);
        checks.dueFault("aspect P { behind (a, b, c, d, e, g) fail ^h catch { } }", 3);
        checks.dueSound("main { none.f(1, 2, 3, 4, 5, 6); }", 1);
        checks.dueFault("main { none.f(1, 2, 3, 4, 5, 6, ^7); }", 3);
        checks.dueFault("main { none.f(1, 2, 3, 4, 5, 6, ^;); }", 2);
        checks.dueFault("class A { } main { new A(1, 2, 3, 4, 5, 6, ^(7)); }", 3);
        checks.dueFault("aspect P { around () catch { go(1, 2, 3, 4, 5, 6, ^- 7); } }", 3);
        checks.dueSound("aspect P { before () args(*, *, *, *, *, *) { } }", 0);
        checks.dueFault("aspect P { before () args(*, *, *, *, *, *, ^*) { } }", 3);
        checks.dueFault("aspect P { before () args(*, *, *, *, *, *, ^1) { } }", 2);
    }

    /** 898 TOKENS, so that there may be two more. */
    private static void manyTokens(Checks checks) {
        String most = "main {" + times(448, "return;");
        checks.dueSound(most + "}", 0);
        checks.dueSound(most + "} // and nothing else", 0);
        checks.dueFault(most + "return; ^}", 3);
        checks.dueFault(most + "return; ^)", 2);
        checks.dueFault(most + "return; ^!", 1);
        checks.dueFault(most + "return;^", 2);
        checks.dueFault(most + "} main ^{ }", 3);
        checks.dueFault(most + "} main ^} }", 2);
    }

    private static void manyPoints(Checks checks) {
        String start = "class A { } main { let a = 1; a";
        checks.dueSound(start + times(400, ".x") + " = 1; }", 400);
        checks.dueFault(start + times(400, ".x") + "^.x = 1; }", 3);
        checks.dueSound(start + times(399, ".x") + " = 1; new A(); }", 400);
        checks.dueFault(start + times(400, ".x") + " = 1; ^new A(); }", 3);
        checks.dueFault(start + times(400, ".x") + " = 1; try { } ^catch e { } }", 3);
        checks.dueFault(start + times(400, ".x") + " = 1; } class B { method ^f() { } }", 3);
    }

    private static void locals(Checks checks) {
        checks.dueSound("main { " + times(10, "let a# = 1; ") + "}", 0);
        checks.dueFault("main { " + times(10, "let a# = 1; ") + "let ^a = 1; }", 3);
        checks.dueFault("main { " + times(10, "if 1 { let a = 1; } ") + "let ^a = 1; }", 3);
        checks.dueFault("main { " + times(5, "let a# = 1; try { } catch e# { } ") + "try { } catch ^e { } }", 3);
        checks.dueFault("class A { method f(a, b, c) { " + times(7, "let a# = 1; ") + "let ^z = 1; } }", 3);
        checks.dueFault("aspect P { behind (a, b) give c args(a, b) { " + times(7, "let a# = 1; ") + "let ^z = 1; } }", 3);
        checks.dueSound("main { " + times(10, "let a# = 1; ") + "} class A { method f() { " + times(10, "let a# = 1; ") + "} }", 1);
    }

    private static void nested(Checks checks) {
        checks.dueSound("main { " + times(15, "if 1 { ") + "return; " + times(15, "} ") + "}", 0);
        checks.dueFault("main { " + times(16, "try { ") + "^return; ", 3);
        checks.dueFault("main { " + times(16, "try { ") + "^; ", 2);
        checks.dueFault("main { " + times(15, "if 1 { ") + "return ^1; " + times(15, "} ") + "}", 3);
        checks.dueFault("main { " + times(15, "if 1 { ") + "return ^} ", 2);
        checks.dueFault("main { " + times(15, "if 1 { ") + "if ^1 { } " + times(15, "} ") + "}", 3);
        checks.dueSound("main { print " + times(14, "(") + "1" + times(14, ")") + "; }", 0);
        checks.dueFault("main { print " + times(15, "(") + "^1" + times(15, ")") + "; }", 3);
        checks.dueFault("main { print " + times(15, "(") + "^)" + times(15, ")") + "; }", 2);
        checks.dueSound("main { print " + times(14, "- ") + "1; }", 0);
        checks.dueFault("main { print " + times(15, "not ") + "^1; }", 3);
        checks.dueSound("main { print " + times(13, "(") + "1 + 2 - 3 + 4" + times(13, ")") + "; }", 0);
        checks.dueFault("main { print " + times(13, "(") + "1 + 2 * ^3" + times(13, ")") + "; }", 3);
        checks.dueSound("main { print " + times(13, "(") + "1 * 2 + 3" + times(13, ")") + "; }", 0);
        checks.dueFault("main { print " + times(14, "(") + "1 == ^2" + times(14, ")") + "; }", 3);
        checks.dueFault("main { print " + times(13, "(") + "1 == - ^2" + times(13, ")") + "; }", 3);
        checks.dueFault("main { let a = 1; print " + times(15, "a.f(") + "^1" + times(15, ")") + "; }", 3);
        checks.dueSound("main { let a = 1; print " + times(15, "a.f(") + times(15, ")") + "; }", 15);
        checks.dueSound("main { " + times(15, "if 1 { } else ") + "{ } }", 0);
        checks.dueFault("main { " + times(15, "if 1 { } else ") + "if ^1 { } }", 3);
        checks.dueFault("main { " + "if 1 { } else { ".repeat(14) + "if 1 { } else if ^1 { } " + times(14, "}") + "}", 3);
        nestedStatements(checks);
        nestedPicks(checks);
    }

    /** Each S and what stands in it, as deep as may be and one deeper. */
    private static void nestedStatements(Checks checks) {
        String[] inside = {"let b = #;", "print #;", "return #;", "throw #;", "b = #;", "b.x = #;", "b.f().x = b.g(#);", "if # { }", "while # { }",
                "if 1 { print %; }", "if 1 { } else { print %; }", "if 1 { } else if % { }", "while 1 { print %; }",
                "try { print %; } catch c { }", "try { } catch c { print %; }", "new A(%);", "b.f(%);", "b.f(1, 2, %);", "print b.f(%).x;"};
        for (String s : inside) {
            String let = s.startsWith("let") ? "" : "let b = 1; ";
            int room = s.contains("b.g(") || s.contains("%") ? 13 : 14;
            for (int deep = room; deep <= room + 1; deep++) {
                String e = times(deep, "(") + (deep > room ? "^1" : "1") + times(deep, ")");
                String text = "class A { } main { " + let + s.replace("#", e).replace("%", e) + " }";
                if (deep > room) {
                    checks.dueFault(text, 3);
                } else {
                    checks.due("compile of " + text, Checks.fed(text).compile() >= 0 ? 1 : 0, 1);
                }
            }
        }
    }

    private static void nestedPicks(Checks checks) {
        String p = "aspect P { before () % { } }";
        checks.dueSound(p.replace("%", times(15, "(") + "catch" + times(15, ")")), 0);
        checks.dueFault(p.replace("%", times(16, "(") + "^catch" + times(16, ")")), 3);
        checks.dueFault(p.replace("%", times(16, "(") + "^1" + times(16, ")")), 2);
        checks.dueFault(p.replace("%", times(16, "not ") + "^catch"), 3);
        checks.dueSound(p.replace("%", "catch" + times(40, " and catch or catch")), 0);
        checks.dueSound(p.replace("%", times(14, "(") + "catch or catch" + times(14, ")")), 0);
        checks.dueFault(p.replace("%", times(15, "(") + "catch or ^catch" + times(15, ")")), 3);
        checks.dueFault(p.replace("%", times(14, "(") + "catch or catch and ^catch" + times(14, ")")), 3);
        checks.dueFault(p.replace("%", "flow (" + times(15, "(") + "^catch" + times(15, ")") + ")"), 3);
        checks.dueFault(p.replace("%", times(15, "(") + "if (^1)" + times(15, ")")), 3);
        checks.dueSound(p.replace("%", times(14, "(") + "if (1)" + times(14, ")")), 0);
    }

    private static void told(Checks checks) {
        checks.dueFault("class A { } class ^A { }", 4);
        checks.dueFault("class A { } aspect ^A { }", 4);
        checks.dueFault("aspect A { } class ^A { }", 4);
        checks.dueFault("aspect A { } aspect ^A { }", 4);
        checks.dueFault("main { }\n ^main { }", 4);
        checks.dueFault("class A { field x; field ^x; }", 4);
        checks.dueFault("class A { field x; method ^x() { } }", 4);
        checks.dueFault("class A { method f() { } method ^f(a) { } }", 4);
        checks.dueSound("class A { field x; } class B under A { field x; }", 0);
        checks.dueFault("class A { field x; } aspect P { in A field ^x; }", 4);
        checks.dueFault("aspect P { in A field x; } class A { method ^x() { } }", 4);
        checks.dueFault("aspect P { in A field x; } aspect Q { in A field ^x; } class A { }", 4);
        checks.dueFault("aspect P { field n; field ^n; }", 4);
        checks.dueFault("aspect P { pick p() = catch; pick ^p() = catch; }", 4);
        checks.dueSound("aspect P { pick p() = catch; field p; } aspect Q { pick p() = catch; field p; }", 0);
        checks.dueFault("class A { method f(a, b, ^a) { } }", 4);
        checks.dueFault("aspect P { pick p(a, ^a) = args(a); }", 4);
        checks.dueFault("aspect P { before (a, ^a) args(a) { } }", 4);
        checks.dueFault("aspect P { behind (a) give ^a args(a) { } }", 4);
        checks.dueFault("main { let a = 1; let ^a = 2; }", 4);
        checks.dueFault("main { let a = 1; if 1 { let ^a = 2; } }", 4);
        checks.dueFault("main { let a = 1; try { } catch ^a { } }", 4);
        checks.dueFault("main { try { } catch a { let ^a = 1; } }", 4);
        checks.dueFault("class A { method f(a) { let ^a = 2; } }", 4);
        checks.dueFault("aspect P { behind () fail r catch { let ^r = 1; } }", 4);
        checks.dueSound("main { if 1 { let a = 1; } let a = 2; }", 0);
        checks.dueSound("main { try { let a = 1; } catch a { } let a = 2; }", 1);
        checks.dueSound("aspect P { field n; before (n) args(n) { } around () catch { let n = 1; } }", 0);
        checks.dueFault("aspect P { } aspect Q { } order P, Q; order ^P;", 4);
        checks.dueFault("order P, ^P; aspect P { }", 4);
    }

    private static void meaning(Checks checks) {
        checks.dueFault("main { print ^x; }", 5);
        checks.dueFault("main { let x = ^x; }", 5);
        checks.dueFault("main { if 1 { let x = 1; } print ^x; }", 5);
        checks.dueFault("main { try { } catch e { } print ^e; }", 5);
        checks.dueFault("main { ^x = 1; }", 5);
        checks.dueFault("main { new ^A(); }", 5);
        checks.dueFault("aspect A { } main { new ^A(); }", 5);
        checks.dueFault("main { print 1 is ^A; }", 5);
        checks.dueFault("class A under ^B { }", 5);
        checks.dueFault("aspect P { in ^A field x; }", 5);
        checks.dueFault("aspect P { in ^A method f() { } }", 5);
        checks.dueFault("class A { } aspect P { in A under ^B; }", 5);
        checks.dueFault("class A { } aspect P { in ^B under A; }", 5);
        checks.dueFault("order ^A; class A { }", 5);
        checks.dueSound("main { print 1 is A; new A(); } order P; aspect P { in A field x; } class A { }", 1);
        checks.dueFault("main { print ^self; }", 5);
        checks.dueFault("aspect P { before () catch { print ^self; } }", 5);
        checks.dueFault("main { ^go; }", 5);
        checks.dueFault("class A { method f() { ^go; } }", 5);
        checks.dueFault("aspect P { before () catch { ^go; } }", 5);
        checks.dueFault("aspect P { around () catch { go; } before () catch { ^go; } }", 5);
        checks.dueFault("aspect P { around () catch { go; } } main { ^go; }", 5);
        checks.dueFault("aspect P { behind () catch { print 1 + ^go(1); } }", 5);
        checks.dueFault("aspect P { field n; } aspect Q { before () catch { print ^n; } }", 5);
        checks.dueFault("class A { } aspect P { field n; in A method f() { print ^n; } }", 5);
        checks.dueSound("aspect P { before () if (n) { n = n; } warn if (n); field n; }", 0);
        checks.dueFault("aspect P { before () if (^n) { } }", 5);
        checks.dueFault("class A { } aspect P { before () if (^A) { } }", 5);
        picksMean(checks);
    }

    private static void picksMean(Checks checks) {
        checks.dueFault("aspect P { before () self(^A) { } }", 5);
        checks.dueFault("aspect P { before (o) self(o) { } bar self(^o); }", 5);
        checks.dueFault("aspect P { before () args(*, ^A) { } }", 5);
        checks.dueFault("aspect P { before () target(^P) { } }", 5);
        checks.dueFault("aspect P { before () ^p() { } }", 5);
        checks.dueFault("aspect P { before () ^p() { } } aspect Q { pick p() = catch; }", 5);
        checks.dueSound("aspect P { before () p() { } pick p() = catch; }", 0);
        checks.dueFault("aspect P { before (o) ^p(o) { } pick p() = catch; }", 5);
        checks.dueFault("aspect P { before () ^p() { } pick p(o) = target(o); }", 5);
        checks.dueFault("class A { } aspect P { before () p(^A) { } pick p(o) = target(o); }", 5);
        checks.dueFault("aspect P { before (o) ^p(o) { } }", 5);
        checks.dueSound("class o { } aspect P { before (o) self(o) { } }", 0);
    }

    private static void unders(Checks checks) {
        checks.dueFault("class A under ^A { }", 5);
        checks.dueFault("class A under B { } class B under ^A { }", 5);
        checks.dueFault("class A under B { } class B under C { } class C under ^A { }", 5);
        checks.dueFault("aspect P { in A under ^B; } class B under A { } class A { }", 5);
        checks.dueFault("class A { } class B { } class C { } aspect P { in A under B; in A under ^C; }", 4);
        checks.dueFault("aspect P { in A under ^C; } class A under B { } class B { } class C { }", 4);
        checks.dueFault("aspect P { in A under ^D; } class A under B { } class B { }", 4);
        checks.dueFault("class A { } class B { } aspect P { in A under B; in B under ^A; }", 5);
        // an under that is wrong is none: A has nothing above it, and may get it
        checks.dueFault("class A under ^A { } class B { } aspect P { in A under B; in A under B; }", 5);
        // so is that of a class told a second time, which needs a class all the same
        checks.dueFault("class A { } class ^A under B { } class B under A { }", 4);
        checks.dueFault("class A { } aspect P { in A under B; } class B { } class ^A under B { }", 4);
        WeaveHouse house = Checks.compiled("class C { } aspect P { in C under B; } class B under A { } class A { }");
        checks.due("above C", house.above(0), 1);
        checks.due("above B", house.above(1), 2);
        checks.due("above A", house.above(2), -1);
    }

    private static void bound(Checks checks) {
        String advice = "class C { } aspect P { field n; %before (o) # { } }";
        for (String good : new String[] {"self(o)", "target(o)", "args(o)", "args(*, o)", "target(o) and call \"f\"",
                "(target(o) or self(o))", "call \"f\" and (target(o) and if (o) or args(o) and if (n))", "p(o)"}) {
            checks.dueSound(advice.replace("%", "pick p(x) = self(x); ").replace("#", good), 0);
        }
        for (String bad : new String[] {"catch", "if (o)", "target(o) and self(o)", "target(o) or catch", "catch or target(o)",
                "args(o, o)", "p(o) and self(o)", "(target(o) or self(o)) and args(o)", "p(o) or catch", "self(C)"}) {
            checks.dueFault(advice.replace("%", "pick p(x) = self(x); ^").replace("#", bad), 6);
        }
        for (String shut : new String[] {"not target(^o)", "flow (self(^o))", "not (catch and args(*, ^o))", "flow (not args(^o, *))",
                "not p(^o)", "catch and not not target(^o)"}) {
            checks.dueFault(advice.replace("%", "pick p(x) = self(x); ").replace("#", shut), 6);
        }
        checks.dueFault("aspect P { pick ^p(o) = catch; }", 6);
        checks.dueFault("aspect P { before (o) p(o) { } pick p(x) = self(x); pick ^q(o) = self(o) and target(o); pick r(o) = self(o); }", 6);
        checks.dueFault("aspect P { before (o) self(o) { } ^before (o) self(o) and target(o) { } before (o) self(o) { } }", 6);
        checks.dueFault("aspect P { pick ^p(o, q) = args(o, q) and self(o); }", 6);
        checks.dueFault("aspect P { pick p(o) = flow (target(^o)); }", 6);
        // the NAME of give, fail may be named in an if, but not bound
        checks.dueSound("aspect P { behind () give r call \"f\" and if (r == none) { } }", 0);
        checks.dueFault("aspect P { ^behind () give r args(r) { } }", 6);
        checks.dueFault("aspect P { ^behind (o) fail r args(o, r) { } }", 6);
    }

    private static void patterns(Checks checks) {
        String p = A + "aspect P { before () # { } }";
        for (String kind : new String[] {"call", "run", "get", "set"}) {
            checks.dueFault(p.replace("#", kind + " ^\"f+\""), 7);
            checks.dueSound(p.replace("#", kind + " \"f\""), 1);
            checks.dueSound(p.replace("#", kind + " \"A+.f\""), 1);
            checks.dueSound(p.replace("#", kind + " \"A.f\""), 1);
        }
        checks.dueFault(p.replace("#", "make ^\"A.f\""), 7);
        checks.dueFault(p.replace("#", "catch and make ^\"A+.f\""), 7);
        checks.dueSound(p.replace("#", "make \"A+\" or make \"A\""), 1);
        checks.dueSound(p.replace("#", "within \"A\" or within \"A+\" or within \"A.f\" or within \"A+.f\""), 1);
    }

    private static void bars(Checks checks) {
        checks.dueFault(A + "aspect P { ^bar run \"f\"; }", 8);
        checks.dueFault(A + "aspect P { warn run \"f\"; bar call \"f\"; ^bar within \"A\"; bar run \"*\"; }", 8);
        checks.dueSound(A + "aspect P { bar call \"f\"; warn run \"f\"; bar self(B); } class B under A { }", 1);
        checks.dueSound("aspect P { bar not catch; }", 0);
        checks.dueFault(A + "aspect P { bar run \"f\"; } main { print ^x; }", 5);
    }

    /** The least place counts, of one place the least number; 1 to 3 before 4 to 7 before 8. */
    private static void whichCounts(Checks checks) {
        checks.dueFault("main { print x; } class A { } class A { } ^!", 1);
        checks.dueFault("main { print x; print ^} #", 2);
        checks.dueFault("main { print ^x; } class A { } class A { }", 5);
        checks.dueFault("class A { } class ^A { } main { print x; }", 4);
        checks.dueFault("aspect P { ^before (o) self(Q) { } }", 6);
        checks.dueFault("aspect P { before () self(^Q) and call \"f+\" { } }", 5);
        checks.dueFault("aspect P { before () call ^\"f+\" and self(Q) { } }", 7);
    }
}
