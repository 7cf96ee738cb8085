/** Promises 8 and 9: what is KNOWN AHEAD, how many are LEFT, findings. */
public final class AheadTest {
    private static final String OUT = "IndexOutOfBoundsException";

    /**
     * POINTS: 0 RUN A.f with an ARG, 1 CALL g in A.f, 2 RUN B.f, 3 GET x in B.f, 4 RUN D.g, 5 SET y in D.g; in main 6 MAKE B,
     * 7 CALL f with an ARG, 8 CATCH; 9 MAKE A with an ARG in advice 0.
     */
    private static final String CLASSES = "class A { field x; method f(a) { a.g(); } } "
            + "class B under A { method f() { print self.x; } } class D { field y; method g() { self.y = 1; } } "
            + "main { try { new B(); none.f(1); } catch e { } } ";

    public static void main(String[] args) {
        Checks checks = new Checks("AheadTest");
        plain(checks);
        objects(checks);
        within(checks);
        combined(checks);
        picks(checks);
        flows(checks);
        edges(checks);
        findings(checks);
        checks.end();
    }

    private static WeaveHouse withAdvice(String more) {
        return Checks.compiled(CLASSES + "aspect Watch { before () catch and flow (catch) { new A(1); } " + more + " }");
    }

    private static void due(Checks checks, String p, String wanted) {
        dueOf(checks, "before () " + p + " { }", wanted);
    }

    /** What is known of the last advice at each POINT; behind a 2 how many are LEFT, if that is not 1. */
    private static void dueOf(Checks checks, String advice, String wanted) {
        WeaveHouse house = withAdvice(advice);
        int last = house.count(3) - 1;
        StringBuilder all = new StringBuilder();
        for (int i = 0; i < house.count(4); i++) {
            int known = house.meets(last, i, 0);
            int left = house.meets(last, i, 1);
            all.append(known).append(left == (known == 2 ? 1 : 0) ? "" : "/" + left);
        }
        checks.due(advice, all.toString(), wanted);
    }

    private static void plain(Checks checks) {
        due(checks, "call \"f\"", "0000000100");
        due(checks, "call \"*\"", "0100000100");
        due(checks, "call \"A.*\"", "0200000200");
        due(checks, "call \"A*.g\"", "0200000000");
        due(checks, "call \"E.*\"", "0000000000");
        due(checks, "call \"E*+.*\"", "0000000000");
        due(checks, "call \"A.h\"", "0000000000");
        due(checks, "get \"x\"", "0001000000");
        due(checks, "get \"*.x\"", "0002000000");
        due(checks, "set \"*\"", "0000010000");
        due(checks, "set \"A.y\"", "0000020000");
        due(checks, "run \"f\"", "1010000000");
        due(checks, "run \"A.*\"", "1000000000");
        due(checks, "run \"A+.*\"", "1010000000");
        due(checks, "run \"*.g\"", "0000100000");
        due(checks, "make \"A\"", "0000000001");
        due(checks, "make \"A+\"", "0000001001");
        due(checks, "make \"**\"", "0000001001");
        due(checks, "catch", "0000000010");
        due(checks, "args()", "0111101000");
        due(checks, "args(*)", "1000010111");
        due(checks, "args(A)", "2000020222");
        due(checks, "if (1)", "2222222222");
        stars(checks);
        due(checks, "if (none)", "2222222222");
    }

    /** * is any letters and digits, also none; all else is itself. */
    private static void stars(Checks checks) {
        String[] cases = {"abcab", "1", "abcab*", "1", "*abcab", "1", "*", "1", "**", "1", "a*b", "1", "a*c", "0", "*b", "1", "*c", "0",
                "a*", "1", "b*", "0", "*c*", "1", "*ab", "1", "*abc", "0", "ab*ab", "1", "abc*cab", "0", "abca", "0", "bcab", "0",
                "abcabc", "0", "*a*a*", "1", "*a*a*a*", "0", "*b*b", "1", "a**b", "1", "*ca*", "1", "*cb*", "0", "Abcab", "0", "*b1*", "0"};
        for (int i = 0; i < cases.length; i += 2) {
            WeaveHouse house = Checks.compiled("main { none.abcab(); } aspect P { before () call \"" + cases[i] + "\" { } }");
            checks.due(cases[i] + " of abcab", house.meets(0, 0, 0), Integer.parseInt(cases[i + 1]));
        }
        WeaveHouse house = Checks.compiled("main { none.aab1aab2aaab(); } aspect P { before () call \"*aab*aaab\" { } before () call \"*aab3*\" { } }");
        checks.due("*aab*aaab", house.meets(0, 0, 0), 1);
        checks.due("*aab3*", house.meets(1, 0, 0), 0);
    }

    /** Of a class: 1 if the POINT stands in it or below it, 2 if it stands above it or where anything may be. */
    private static void objects(Checks checks) {
        due(checks, "self(A)", "1111000000");
        due(checks, "self(B)", "2211000000");
        due(checks, "self(D)", "0000110000");
        due(checks, "target(A)", "1212020200");
        due(checks, "target(B)", "2212020200");
        due(checks, "target(D)", "0202120200");
        dueOf(checks, "before (o) self(o) { }", "1111110000");
        dueOf(checks, "before (o) target(o) { }", "1212120200");
        dueOf(checks, "before (o) args(o) { }", "1000010111");
    }

    private static void within(Checks checks) {
        due(checks, "within \"A\"", "1100000000");
        due(checks, "within \"A+\"", "1111000000");
        due(checks, "within \"A+.f\"", "1111000000");
        due(checks, "within \"*.g\"", "0000110000");
        due(checks, "within \"main\"", "0000001110");
        due(checks, "within \"m*.main\"", "0000001110");
        due(checks, "within \"main.f\"", "0000000000");
        due(checks, "within \"Watch\"", "0000000001");
        due(checks, "within \"W*+.advice\"", "0000000001");
        due(checks, "within \"Watch.main\"", "0000000000");
        due(checks, "within \"*\"", "1111111111");
        due(checks, "within \"*.*\"", "1111111111");
    }

    private static void combined(Checks checks) {
        due(checks, "not call \"f\"", "1111111011");
        due(checks, "not call \"A.f\"", "1111111211");
        due(checks, "call \"f\" and catch", "0000000000");
        due(checks, "call \"f\" and within \"main\"", "0000000100");
        due(checks, "call \"A.f\" and within \"main\"", "0000000200");
        due(checks, "call \"A.f\" and if (1)", "00000002/200");
        due(checks, "catch or run \"f\"", "1010000010");
        due(checks, "catch or call \"A.f\"", "0000000210");
        due(checks, "if (1) or catch", "2222222212");
        due(checks, "catch or run \"f\" or get \"x\" or make \"A\"", "1011000011");
        due(checks, "if (1) or self(A)", "1111222222");
        due(checks, "not (if (1) and not catch)", "2222222212");
        due(checks, "if (1) and if (2) and if (3) or if (4)", "2/42/42/42/42/42/42/42/42/42/4");
        // a second side that is 1 and binds is known only if the first one is 0
        dueOf(checks, "before (o) target(o) or self(o) { }", "1212120200");
        dueOf(checks, "before (o) target(o) and call \"*\" or self(o) { }", "1211110200");
        dueOf(checks, "before (o) self(o) and if (1) or self(o) { }", "2222220000");
    }

    private static void picks(Checks checks) {
        dueOf(checks, "pick p(o) = target(o) and (call \"*\" or run \"f\"); before (x) p(x) { }", "1210000200");
        dueOf(checks, "pick p() = catch or if (1); before () not p() { }", "2222222202");
        dueOf(checks, "before (x) p(x) and if (x) { } pick p(o) = (self(o) or target(o)) and call \"A.*\";",
                "02/2000002/300");
    }

    private static void flows(Checks checks) {
        due(checks, "flow (catch)", "2222222212");
        due(checks, "flow (call \"h\")", "0000000000");
        due(checks, "flow (call \"A.f\" and if (1) and within \"main\")", "2222222222");
        due(checks, "flow (not within \"none\")", "1111111111");
        due(checks, "not flow (call \"h\")", "1111111111");
        due(checks, "catch and flow (run \"f\") and if (1)", "000000002/20");
    }

    private static void edges(Checks checks) {
        WeaveHouse house = withAdvice("");
        checks.dueThrow("meets(-1)", () -> house.meets(-1, 0, 0), OUT);
        checks.dueThrow("meets(1)", () -> house.meets(1, 0, 0), OUT);
        checks.dueThrow("meets(0, -1)", () -> house.meets(0, -1, 0), OUT);
        checks.dueThrow("meets(0, 10)", () -> house.meets(0, 10, 0), OUT);
        checks.dueThrow("meets(0, 0, -1)", () -> house.meets(0, 0, -1), OUT);
        checks.dueThrow("meets(0, 0, 2)", () -> house.meets(0, 0, 2), OUT);
    }

    private static void findings(Checks checks) {
        WeaveHouse house = Checks.compiled(CLASSES + "aspect Q { warn call \"*\"; bar call \"D.*\"; } aspect R { bar call \"h\"; "
                + "warn run \"A+.f\" or target(D) and set \"*\"; }");
        String[] wanted = {"0 1 1 1", "0 1 7 1", "1 0 1 2", "1 0 7 2", "3 1 0 1", "3 1 2 1", "3 1 5 2"};
        checks.due("findings", house.count(6), wanted.length);
        for (int k = 0; k < wanted.length; k++) {
            StringBuilder all = new StringBuilder();
            for (int what = 0; what <= 3; what++) {
                all.append(what == 0 ? "" : " ").append(house.finding(k, what));
            }
            checks.due("finding " + k, all.toString(), wanted[k]);
        }
        checks.dueThrow("finding(-1, 0)", () -> house.finding(-1, 0), OUT);
        checks.dueThrow("finding(7, 0)", () -> house.finding(7, 0), OUT);
        checks.dueThrow("finding(0, -1)", () -> house.finding(0, -1), OUT);
        checks.dueThrow("finding(0, 4)", () -> house.finding(0, 4), OUT);
    }
}
