/** Terms 2, "At most" and NESTED: of each the last that is allowed, the first that is too much, and where its FAULT 3 is. */
public final class EdgeLimitTest {
    public static void main(String[] args) {
        Checks checks = new Checks("EdgeLimitTest");
        bytes(checks);
        tokens(checks);
        classesAndAspects(checks);
        fields(checks);
        methods(checks);
        adviceAndPicks(checks);
        parameters(checks);
        arguments(checks);
        locals(checks);
        points(checks);
        nestedStatements(checks);
        nestedExpressions(checks);
        nestedOperators(checks);
        nestedPicks(checks);
        beforeLater(checks);
        checks.end();
    }

    private static String times(int n, String text) {
        return Checks.times(n, text);
    }

    private static void bytes(Checks checks) {
        WeaveHouse house = Checks.fed("main { print 8; }" + " ".repeat(4983));
        checks.due("compile of 5000 bytes", house.compile(), 0);
        checks.due("begin of 5000 bytes", house.begin(true), 1);
        house.run(1);
        checks.due("output of 5000 bytes", house.output(0, 1), 8);
        checks.due("bytes", house.wipe(), 5000);
        // a TOKEN may end with the last byte
        checks.dueSound(" ".repeat(4994) + "main{}", 0);
        checks.dueFault(" ".repeat(4996) + "main^", 2);
        checks.dueFault(" ".repeat(4999) + "^x", 2);
        checks.dueFault(" ".repeat(4995) + "^12345", 2);
    }

    /** 900 TOKENS are read; the 901st is too much if it would fit, else it is what it is. */
    private static void tokens(Checks checks) {
        String most = "main { return 1; " + times(447, "return; ") + "}";
        WeaveHouse house = Checks.compiled("\n" + most.substring(0, most.length() - 1) + "  \n }  // the 900th");
        checks.due("begin of 900 TOKENS", house.begin(false), 1);
        checks.dueFault(most + " ^class", 3);
        checks.dueFault(most + " ^main { }", 3);
        checks.dueFault(most + " ^}", 2);
        checks.dueFault(most + " ^x", 2);
        checks.dueFault(most + " ^1x", 1);
        checks.dueFault(most + " ^\"", 1);
        String open = "main { " + times(449, "return; ");
        checks.dueFault(open + "^}", 3);
        checks.dueFault(open + "^return; }", 3);
        checks.dueFault(open + "^;", 2);
        checks.dueFault(open + "^else", 2);
        checks.dueFault(open + "^", 2);
        checks.dueSound(times(12, "class C# { field a; } ") + "main { " + times(404, "return; ") + "} // 84 + 811", 0);
    }

    private static void classesAndAspects(Checks checks) {
        String classes = times(12, "class C# { } ");
        checks.due("count(0)", Checks.compiled(classes).count(0), 12);
        checks.dueFault(classes + "class ^C { }", 3);
        checks.dueFault(classes + "class ^C0 { }", 3);
        checks.dueFault(classes + "class ^C", 3);
        checks.dueFault(classes + "class ^{ }", 2);
        checks.dueFault(classes + "class ^1x", 1);
        checks.dueFault(classes + "class^", 2);
        String aspects = times(8, "aspect P# { } ");
        checks.due("count(2)", Checks.compiled(classes + aspects).count(2), 8);
        checks.dueFault(aspects + "aspect ^P { }", 3);
        checks.dueFault(aspects + "aspect ^P0 each object { }", 3);
        checks.dueFault(aspects + "aspect ^each { }", 2);
        checks.dueFault(classes + aspects + "aspect ^P { } class C { }", 3);
    }

    /** Ten of a class by its NAME, wherever they are told; ten of an aspect. */
    private static void fields(Checks checks) {
        checks.dueSound(times(2, "class C# { " + times(10, "field f#; ") + "} "), 0);
        checks.dueFault("class C { " + times(10, "field f#; ") + "field ^f0; }", 3);
        checks.dueSound("aspect P { " + times(10, "in C field f#; ") + "} class C { }", 0);
        checks.dueFault("aspect P { " + times(10, "in C field f#; ") + "in C field ^f; } class C { }", 3);
        checks.dueFault("aspect P { " + times(10, "in C field f#; ") + "} class C { field ^f; }", 3);
        checks.dueFault("aspect P { in C field a; in C field b; } class C { " + times(8, "field f#; ") + "} aspect Q { in C field ^c; }", 3);
        checks.dueSound("aspect P { in C field a; in D field b; } class C { " + times(9, "field f#; ") + "} class D { " + times(9, "field f#; ") + "}", 0);
        // by its NAME, though it means no class, or one that is told twice
        checks.dueFault("aspect P { " + times(10, "in X field f#; ") + "in X field ^f; }", 3);
        checks.dueFault("aspect P { in ^X field a; " + times(9, "in X field f#; ") + "}", 5);
        checks.dueFault("class C { " + times(6, "field f#; ") + "} class C { " + times(4, "field g#; ") + "field ^h; }", 3);
        // those above are not counted, nor methods
        checks.dueSound("class B { " + times(10, "field f#; ") + "} class C under B { " + times(10, "field g#; ") + "method m() { } }", 1);
        checks.dueSound("aspect P { " + times(10, "field f#; ") + "} aspect Q { " + times(10, "field f#; ") + times(3, "in C field f#; ") + "} class C { }", 0);
        checks.dueFault("aspect P { " + times(10, "field f#; ") + "field ^f; }", 3);
        checks.dueFault("aspect P { " + times(10, "field f#; ") + "in C field a; field ^f0; } class C { }", 3);
    }

    private static void methods(Checks checks) {
        String forty = "class C { " + times(40, "method m#() { } ") + "} ";
        checks.due("count(1)", Checks.compiled(forty + "aspect P { " + times(20, "in D method m#() { } ") + "} class D { }").count(1), 60);
        checks.dueFault(forty + "aspect P { " + times(20, "in D method m#() { } ") + "} class D { method ^m() { } }", 3);
        checks.dueFault(forty + "aspect P { " + times(20, "in D method m#() { } ") + "in D method ^m0() { } } class D { }", 3);
        checks.dueFault(forty + "class D { " + times(20, "method m#() { } ") + "method ^(", 2);
        checks.dueFault(forty + "class D { " + times(20, "method m#() { } ") + "method ^m", 3);
    }

    private static void adviceAndPicks(Checks checks) {
        String[] heads = {"before ()", "behind ()", "around ()", "behind () give r", "behind () fail r"};
        String most = "aspect P { " + times(12, "before () catch { } ") + "} aspect Q { " + times(12, "around () catch { } ");
        checks.due("count(3)", Checks.compiled(most + "}").count(3), 24);
        for (String head : heads) {
            checks.dueFault(most + "^" + head + " catch { } }", 3);
        }
        checks.dueFault(most + "^before", 3);
        String picks = "aspect P { " + times(12, "pick p#() = catch; ") + "} aspect Q { " + times(12, "pick p#() = catch; ");
        checks.due("count(5)", Checks.compiled(picks + "}").count(5), 24);
        checks.dueFault(picks + "pick ^p() = catch; }", 3);
        checks.dueFault(picks + "pick ^p0() = catch; }", 3);
        checks.dueFault(picks + "pick ^() = catch; }", 2);
        String bars = "aspect P { " + times(4, "bar catch; ") + times(4, "warn catch; ") + "} aspect Q { " + times(4, "bar catch; ");
        checks.dueSound(bars + "}", 0);
        checks.dueFault(bars + "^bar catch; }", 3);
        checks.dueFault(bars + "^warn catch; }", 3);
        checks.dueFault("aspect P { " + times(12, "warn catch; ") + "^warn catch; }", 3);
        checks.dueFault("aspect P { " + times(12, "bar catch; ") + "^bar", 3);
    }

    private static void parameters(Checks checks) {
        String six = "a, b, c, d, e, f";
        checks.dueSound("class C { method m(" + six + ") { } method n() { } method o(a) { } }", 3);
        checks.dueFault("class C { method m(" + six + ", ^g) { } }", 3);
        checks.dueFault("class C { method m(" + six + ", ^a) { } }", 3);
        checks.dueFault("aspect P { in C method m(" + six + ", ^g) { } } class C { }", 3);
        checks.dueSound("aspect P { pick p(" + six + ") = args(" + six + "); }", 0);
        checks.dueFault("aspect P { pick p(" + six + ", ^g) = args(" + six + "); }", 3);
        for (String word : new String[] {"before", "behind", "around"}) {
            checks.dueSound("aspect P { " + word + " (" + six + ") args(" + six + ") { } }", 0);
            checks.dueFault("aspect P { " + word + " (" + six + ", ^g) args(" + six + ") { } }", 3);
            checks.dueFault("aspect P { " + word + " (" + six + ", ^) args(" + six + ") { } }", 2);
        }
        for (String word : new String[] {"give", "fail"}) {
            checks.dueSound("aspect P { behind (a, b, c, d, e) " + word + " r args(a, b, c, d, e) { } }", 0);
            checks.dueFault("aspect P { behind (" + six + ") " + word + " ^r args(" + six + ") { } }", 3);
            checks.dueFault("aspect P { behind (" + six + ") " + word + " ^a args(" + six + ") { } }", 3);
            checks.dueFault("aspect P { behind (" + six + ") " + word + " ^args(" + six + ") { } }", 2);
        }
    }

    /** Six arguments of each call, new, go; the first TOKEN of the seventh is too much. */
    private static void arguments(Checks checks) {
        String[] calls = {"none.f", "new C", "go", "none.f().g", "go.f"};
        for (String call : calls) {
            String text = "class C { } aspect P { around () catch { % } }";
            String six = call + "(1, 2, none.g(1, 2, 3, 4, 5, 6), 4, 5, 6";
            checks.due("six of " + call, Checks.fed(text.replace("%", six + ");")).compile() >= 0 ? 1 : 0, 1);
            for (String seventh : new String[] {"7", "none", "go", "self", "new C()", "(7)", "not 7", "- 7", "x"}) {
                checks.dueFault(text.replace("%", six + ", ^" + seventh + ");"), 3);
            }
            checks.dueFault(text.replace("%", six + ", ^);"), 2);
            checks.dueFault(text.replace("%", six + " ^7);"), 2);
            checks.dueFault(text.replace("%", six + ", ^*);"), 2);
        }
        String p = "class C { } aspect P { before () args(%) { } }";
        checks.dueSound(p.replace("%", "*, C, *, C, *, C"), 0);
        checks.dueFault(p.replace("%", "*, C, *, C, *, C, ^*"), 3);
        checks.dueFault(p.replace("%", "*, C, *, C, *, C, ^C"), 3);
        checks.dueFault(p.replace("%", "*, C, *, C, *, C, ^X"), 3);
        checks.dueFault(p.replace("%", "*, C, *, C, *, C, ^"), 2);
        checks.dueFault(p.replace("%", "*, C, *, C, *, C, ^none"), 2);
    }

    /** Parameters, lets and catches together, also those of BLOCKS that have ended. */
    private static void locals(Checks checks) {
        String[] heads = {"main { %0 }", "class C { method m() { %0 } }", "class C { method m(p, q) { %2 } }", "aspect P { in C method m(p) { %1 } } class C { }",
                "aspect P { before () catch { %0 } }", "aspect P { around (p) args(p) { %1 } }", "aspect P { behind () give r catch { %1 } }",
                "aspect P { behind (p, q, s, t, u) fail r args(p, q, s, t, u) { %6 } }"};
        for (String head : heads) {
            int at = head.indexOf('%');
            int told = head.charAt(at + 1) - '0';
            String hole = head.substring(at, at + 2);
            String lets = times(10 - told, "let x# = 1; ");
            checks.dueSound(head.replace(hole, lets), Checks.fed(head.replace(hole, "")).compile());
            checks.dueFault(head.replace(hole, lets + "let ^y = 1;"), 3);
            checks.dueFault(head.replace(hole, lets + "try { } catch ^y { }"), 3);
            checks.dueFault(head.replace(hole, lets + "if 1 { let ^y = 1; }"), 3);
            checks.dueFault(head.replace(hole, lets + "let ^x0 = 1;"), 3);
            checks.dueFault(head.replace(hole, lets + "let ^= 1;"), 2);
            String ended = times(10 - told, "while 0 { let x = 1; } ");
            checks.dueFault(head.replace(hole, ended + "let ^y = 1;"), 3);
            String caught = times(9 - told, "try { } catch x { } ");
            checks.due("catches in " + head, Checks.fed(head.replace(hole, caught + "let y = 1;")).compile() >= 0 ? 1 : 0, 1);
            checks.dueFault(head.replace(hole, caught + "let y = 1; try { let ^z = 1; } catch z { }"), 3);
        }
        // each BLOCK of a method, advice, main has ten of its own
        checks.dueSound("main { " + times(10, "let x# = 1; ") + "} class C { method m(p) { " + times(9, "let x# = 1; ") + "} method n() { "
                + times(10, "let x# = 1; ") + "} } aspect P { before () catch { " + times(10, "let x# = 1; ") + "} }", 2);
    }

    /** 400 POINTS; the next one of each kind is too much where it stands. */
    private static void points(Checks checks) {
        String most = "main { let a = 1; a" + times(400, ".x") + " = 1; % }";
        checks.dueSound(most.replace("%", "print a;"), 400);
        checks.dueFault(most.replace("%", "print a^.x;"), 3);
        checks.dueFault(most.replace("%", "a^.x = 1;"), 3);
        checks.dueFault(most.replace("%", "a^.f();"), 3);
        checks.dueFault(most.replace("%", "a^.1"), 3);
        checks.dueFault(most.replace("%", "^new A();"), 3);
        checks.dueFault(most.replace("%", "^new 1"), 3);
        checks.dueFault(most.replace("%", "try { } ^catch e { }"), 3);
        checks.dueFault(most.replace("%", "try { } ^catch"), 3);
        checks.dueFault(most.replace("%", "") + " class C { method ^m() { } }", 3);
        checks.dueFault(most.replace("%", "") + " aspect P { in C method ^m() { } } class C { }", 3);
        checks.dueFault(most.replace("%", "") + " aspect P { around () catch { go^.x = 1; } }", 3);
        checks.dueSound(most.replace("%", "") + " aspect P { before () catch { } pick p() = catch; } class C { field x; }", 400);
        checks.dueFault(most.replace("%", "") + " class C { method ^", 2);
        WeaveHouse house = Checks.compiled("main { let a = 1; a" + times(398, ".x") + ".f(); try { } catch e { } }");
        checks.due("count(4)", house.count(4), 400);
        checks.due("kind of the 399th", house.point(398, 0), 0);
        checks.due("kind of the 400th", house.point(399, 0), 5);
    }

    private static final String[] BLOCKS = {"main { % }", "class C { method m() { % } }", "aspect P { in C method m() { % } } class C { }",
            "aspect P { before () catch { % } }", "aspect P { behind () fail r catch { % } }", "aspect P { around () catch { % } }"};

    /** 16 S within one another, in each sort of BLOCK; an E in an S is one more. */
    private static void nestedStatements(Checks checks) {
        for (String block : BLOCKS) {
            int points = Checks.fed(block.replace("%", "")).compile();
            checks.dueSound(block.replace("%", times(15, "if 1 { ") + "return; " + times(15, "} ")), points);
            checks.dueFault(block.replace("%", times(15, "if 1 { ") + "if ^1 { return; } " + times(15, "} ")), 3);
            checks.dueFault(block.replace("%", times(16, "try { ") + "^return; "), 3);
            checks.dueFault(block.replace("%", times(15, "if 1 { ") + "return ^1; " + times(15, "} ")), 3);
            checks.dueSound(block.replace("%", times(14, "while 0 { ") + "return 1; " + times(14, "} ")), points);
            checks.dueSound(block.replace("%", times(14, "while 0 { ") + "print - 1; " + times(14, "} ")).replace("- 1", "1"), points);
            checks.dueFault(block.replace("%", times(14, "while 0 { ") + "print - ^1; " + times(14, "} ")), 3);
        }
        String[] opens = {"if 1 { ", "while 1 { ", "try { ", "if 1 { } else { ", "if 1 { } else if 1 { "};
        for (String open : opens) {
            int each = open.contains("else if") ? 2 : 1;
            checks.dueFault("main { " + times(15 / each, open) + (each == 2 ? "try { " : "") + "throw ^1;", 3);
            checks.dueFault("main { " + times(15 / each, open) + (each == 2 ? "try { " : "") + "try { ^throw 1;", 3);
        }
        // an else's IF is an S within the IF, and so is what stands in it
        checks.dueSound("main { " + times(14, "if 1 { } else ") + "if 1 { } else { return; } }", 0);
        checks.dueFault("main { " + times(15, "if 1 { } else ") + "if ^1 { } }", 3);
        checks.dueFault("main { " + times(14, "if 1 { } else ") + "if 1 { print ^1; } }", 3);
        checks.dueSound("main { " + times(13, "if 1 { } else ") + "if 1 { print 1; } }", 0);
        checks.dueSound("main { " + times(14, "if 1 { ") + "try { } catch e { return; } " + times(14, "} ") + "}", 1);
        checks.dueFault("main { " + times(15, "if 1 { ") + "try { } catch e { ^return; }", 3);
        // what stands one behind the other does not count
        checks.dueSound("main { " + times(40, "if 1 { } else { } ") + "}", 0);
    }

    /** An E that stands at 16, and one more: ( E ), arguments, behind not and -, in each S. */
    private static void nestedExpressions(Checks checks) {
        String around = "class C { } aspect P { around () catch { % } }";
        String[] opens = {"(", "not ", "- ", "none.f(", "new C(", "go(", "1.f().g("};
        for (String open : opens) {
            String close = open.contains("(") ? ")" : "";
            String text = around.replace("%", "print " + times(14, open) + "1" + times(14, close) + ";");
            checks.due("compile of " + text, Checks.fed(text).compile() >= 0 ? 1 : 0, 1);
            checks.dueFault(around.replace("%", "print " + times(15, open) + "^1" + times(15, close) + ";"), 3);
            checks.dueFault(around.replace("%", "print " + times(15, open) + "^self"), 3);
            checks.dueFault(around.replace("%", "print " + times(15, open) + "^(1"), 3);
            checks.dueFault(around.replace("%", "print " + times(15, open) + "^;"), 2);
            checks.dueFault(around.replace("%", "print " + times(15, open) + "^1x"), 1);
        }
        String[] statements = {"let a = %;", "print %;", "return %;", "throw %;", "if % { }", "while % { }", "b = %;", "%.x = 1;", "%.f();", "b.x = %;"};
        for (String s : statements) {
            String text = "main { let b = 1; " + s + " }";
            checks.due("14 ( in " + s, Checks.fed(text.replace("%", times(14, "(") + "1" + times(14, ")"))).compile() >= 0 ? 1 : 0, 1);
            checks.dueFault(text.replace("%", times(15, "(") + "^1" + times(15, ")")), 3);
        }
        // the first of the arguments that are too deep counts
        checks.dueSound("main { print " + times(13, "none.f(1, ") + "none.f(1, 2" + times(14, ")") + "; }", 14);
        checks.dueFault("main { print " + times(14, "none.f(1, ") + "none.f(^1, 2" + times(15, ")") + "; }", 3);
        // fields, calls and is behind an operand are no more nested than it is
        checks.dueSound("class C { } main { print " + times(14, "(") + "1" + times(20, ".x") + ".f().g() is C" + times(14, ")") + "; }", 22);
        checks.dueFault("main { " + times(15, "try { ") + "let a = ^1;", 3);
        checks.dueFault("main { let a = 1; " + times(15, "try { ") + "^a = 1;", 3);
    }

    /** The right side of each operator is one more; equal ones stand beside each other. */
    private static void nestedOperators(Checks checks) {
        for (String op : "or and == != < <= > >= + - * / %".split(" ")) {
            String good = "main { print " + times(13, "(") + "1 " + op + " 2 " + op + " 3 " + op + " 4" + times(13, ")") + "; }";
            checks.dueSound(good, 0);
            checks.dueFault("main { print " + times(14, "(") + "1 " + op + " ^2" + times(14, ")") + "; }", 3);
            checks.dueFault("main { print " + times(13, "(") + "1 " + op + " - ^2" + times(13, ")") + "; }", 3);
            checks.dueFault("main { print " + times(13, "(") + "1 " + op + " (^2)" + times(13, ")") + "; }", 3);
            checks.dueFault("main { print " + times(13, "(") + "1 " + op + " 2 " + op + " not ^3" + times(13, ")") + "; }", 3);
            checks.dueSound("main { print " + times(13, "(") + "- 1 " + op + " 2" + times(13, ")") + "; }", 0);
            checks.dueSound("main { print 1" + times(60, " " + op + " 2") + "; }", 0);
        }
        // a stronger one stands in the right side of a weaker one
        checks.dueSound("main { print " + times(9, "(") + "1 or 2 and 3 == 4 + 5 * 6" + times(9, ")") + "; }", 0);
        checks.dueFault("main { print " + times(10, "(") + "1 or 2 and 3 == 4 + 5 * ^6" + times(10, ")") + "; }", 3);
        checks.dueSound("main { print " + times(13, "(") + "1 * 2 + 3 == 4 and 5 or 6" + times(13, ")") + "; }", 0);
        checks.dueSound("main { print " + times(13, "(") + "1 + 2 - 3 + 4 - 5" + times(13, ")") + "; }", 0);
        checks.dueSound("main { print " + times(13, "(") + "1 < 2 == 3 >= 4 != 5" + times(13, ")") + "; }", 0);
        checks.dueSound("main { print " + times(13, "(") + "1 * 2 / 3 % 4" + times(13, ")") + "; }", 0);
    }

    private static final String[] PICKS = {"before () % { }", "behind () % { }", "behind () give r % { }", "around () % { }", "pick p() = %;", "bar %;", "warn %;"};

    private static void nestedPicks(Checks checks) {
        for (String pick : PICKS) {
            String text = "aspect P { " + pick + " }";
            checks.dueSound(text.replace("%", times(15, "(") + "catch" + times(15, ")")), 0);
            checks.dueFault(text.replace("%", times(16, "(") + "^catch" + times(16, ")")), 3);
            checks.dueSound(text.replace("%", times(15, "not ") + "catch"), 0);
            checks.dueFault(text.replace("%", times(16, "not ") + "^catch"), 3);
            checks.dueFault(text.replace("%", times(16, "not ") + "^1x"), 1);
            checks.dueFault(text.replace("%", times(16, "not ") + "^;"), 2);
            for (String op : new String[] {"and", "or"}) {
                checks.dueSound(text.replace("%", times(14, "(") + "catch " + op + " catch " + op + " catch" + times(14, ")")), 0);
                checks.dueFault(text.replace("%", times(15, "(") + "catch " + op + " ^catch" + times(15, ")")), 3);
                checks.dueFault(text.replace("%", times(14, "(") + "catch " + op + " not ^catch" + times(14, ")")), 3);
                checks.dueFault(text.replace("%", times(14, "(") + "catch " + op + " (^catch)" + times(14, ")")), 3);
            }
            checks.dueSound(text.replace("%", times(13, "(") + "catch or catch and catch" + times(13, ")")), 0);
            checks.dueFault(text.replace("%", times(14, "(") + "catch or catch and ^catch" + times(14, ")")), 3);
            checks.dueSound(text.replace("%", times(14, "(") + "catch and catch or catch" + times(14, ")")), 0);
            checks.dueSound(text.replace("%", times(14, "(") + "flow (catch)" + times(14, ")")), 0);
            checks.dueFault(text.replace("%", times(15, "(") + "flow (^catch)" + times(15, ")")), 3);
            checks.dueSound(text.replace("%", times(14, "(") + "if (1)" + times(14, ")")), 0);
            checks.dueFault(text.replace("%", times(15, "(") + "if (^1)" + times(15, ")")), 3);
            checks.dueSound(text.replace("%", "if (" + times(14, "(") + "1" + times(14, ")") + ")"), 0);
            checks.dueFault(text.replace("%", "if (" + times(15, "(") + "^1" + times(15, ")") + ")"), 3);
            checks.dueFault(text.replace("%", "if (" + times(14, "(") + "1 + ^1" + times(14, ")") + ")"), 3);
            checks.dueFault(text.replace("%", "if (" + times(15, "not ") + "^1)"), 3);
        }
        // a pick that is named is not nested in what names it
        checks.dueSound("aspect P { pick p() = " + times(15, "(") + "catch" + times(15, ")") + "; before () " + times(15, "(") + "p()" + times(15, ")") + " { } }", 0);
        checks.dueFault("aspect P { pick p() = catch; before () " + times(16, "(") + "^p()" + times(16, ")") + " { } }", 3);
    }

    /** FAULT 3 comes before all of 4 to 8, wherever they are. */
    private static void beforeLater(Checks checks) {
        checks.dueFault("main { print x; } main { } aspect P { bar if (1); } class C { " + times(10, "field f#; ") + "field ^f0; }", 3);
        checks.dueFault("class A { } class A { } main { " + times(16, "try { ") + "^print 1;", 3);
        checks.dueFault("aspect P { before (o) catch { } before () call \"f+\" { go; } } " + times(12, "class C# { } ") + "class ^C { }", 3);
    }
}
