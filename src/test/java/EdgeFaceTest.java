import java.lang.reflect.Field;

/** Promises 1 to 19: of each call the least and the most that it takes, what lies just outside, and what a refused call leaves. */
public final class EdgeFaceTest {
    private static final String OUT = "IndexOutOfBoundsException";
    private static final String STATE = "IllegalStateException";
    private static final String ARGUMENT = "IllegalArgumentException";
    private static final int LEAST = Integer.MIN_VALUE;
    private static final int MOST = Integer.MAX_VALUE;
    /** No number that any call takes. */
    private static final int[] FAR = {LEAST, LEAST + 1, -1000000, -2, 1000000, MOST - 1, MOST};

    public static void main(String[] args) throws Exception {
        Checks checks = new Checks("EdgeFaceTest");
        newObject(checks);
        feed(checks);
        feedFull(checks);
        refusedFeed(checks);
        wipe(checks);
        compile(checks);
        fault(checks);
        count(checks);
        point(checks);
        meets(checks);
        finding(checks);
        ordered(checks);
        above(checks);
        begin(checks);
        run(checks);
        told(checks);
        output(checks);
        failure(checks);
        row(checks);
        object(checks);
        held(checks);
        mostCounted(checks);
        checks.end();
    }

    private static String times(int n, String text) {
        return Checks.times(n, text);
    }

    /** A call of one number: within these bounds it answers, outside it throws. */
    interface Numbered {
        int call(int what);
    }

    private static void dueRange(Checks checks, String name, Numbered call, int first, int last, String exception) {
        checks.dueThrow(name + " of " + first, () -> call.call(first), Checks.NOTHING);
        checks.dueThrow(name + " of " + last, () -> call.call(last), Checks.NOTHING);
        checks.dueThrow(name + " of " + (first - 1), () -> call.call(first - 1), exception);
        checks.dueThrow(name + " of " + (last + 1), () -> call.call(last + 1), exception);
        dueNone(checks, name, call, exception);
    }

    private static void dueNone(Checks checks, String name, Numbered call, String exception) {
        for (int far : FAR) {
            checks.dueThrow(name + " of " + far, () -> call.call(far), exception);
        }
    }

    private static void dueNothingCompiled(Checks checks, String when, WeaveHouse house) {
        for (int what = 0; what <= 6; what++) {
            checks.due("count(" + what + ") " + when, house.count(what), 0);
        }
        for (int i = -1; i <= 1; i++) {
            int k = i;
            checks.dueThrow("point(" + k + ") " + when, () -> house.point(k, 0), OUT);
            checks.dueThrow("meets(" + k + ") " + when, () -> house.meets(k, k, 0), OUT);
            checks.dueThrow("finding(" + k + ") " + when, () -> house.finding(k, 0), OUT);
            checks.dueThrow("ordered(" + k + ") " + when, () -> house.ordered(k), OUT);
            checks.dueThrow("above(" + k + ") " + when, () -> house.above(k), OUT);
        }
        checks.dueThrow("begin(false) " + when, () -> house.begin(false), STATE);
        checks.dueThrow("begin(true) " + when, () -> house.begin(true), STATE);
        dueNoRun(checks, when, house);
    }

    /** There is no RUN, whatever else is wrong with the call. */
    private static void dueNoRun(Checks checks, String when, WeaveHouse house) {
        for (int k : new int[] {LEAST, -1, 0, 1, 2000, 2001, MOST}) {
            checks.dueThrow("run(" + k + ") " + when, () -> house.run(k), STATE);
            checks.dueThrow("told(" + k + ") " + when, () -> house.told(k), STATE);
            checks.dueThrow("output(" + k + ") " + when, () -> house.output(k, k), STATE);
            checks.dueThrow("failure(" + k + ") " + when, () -> house.failure(k), STATE);
            checks.dueThrow("row(" + k + ") " + when, () -> house.row(k, k), STATE);
            checks.dueThrow("object(" + k + ") " + when, () -> house.object(k, k, k), STATE);
            checks.dueThrow("held(" + k + ") " + when, () -> house.held(k, k, k, k), STATE);
        }
    }

    private static void newObject(Checks checks) {
        checks.due("NONE", WeaveHouse.NONE, -1);
        dueNothingCompiled(checks, "of a new object", new WeaveHouse());
        checks.due("wipe of a new object", new WeaveHouse().wipe(), 0);
        checks.due("fault(0) of a new object", new WeaveHouse().fault(0), -1);
        checks.due("fault(1) of a new object", new WeaveHouse().fault(1), -1);
        checks.due("feed of a new object", new WeaveHouse().feed(1, 0), 1);
        checks.due("compile of a new object", new WeaveHouse().compile(), 0);
    }

    private static long packed(String eight) {
        long all = 0;
        for (int i = 7; i >= 0; i--) {
            all = all << 8 | eight.charAt(i);
        }
        return all;
    }

    /** 1 to 8 bytes, the lowest ones, the lowest first. */
    private static void feed(Checks checks) {
        long text = packed("main{}!!");
        int[] answers = {-2, -2, -2, -2, -2, 0, -1, -1};
        int[] places = {0, 0, 0, 4, 5, -1, 6, 6};
        for (int n = 1; n <= 8; n++) {
            WeaveHouse house = new WeaveHouse();
            checks.due("feed(" + n + ")", house.feed(n, text), n);
            checks.due("compile of " + n, house.compile(), answers[n - 1]);
            checks.due("place of " + n, house.fault(0), places[n - 1]);
            checks.due("wipe of " + n, house.wipe(), n);
        }
        WeaveHouse house = new WeaveHouse();
        for (int n : new int[] {0, -1, 9, 10, 16, 255, 256, 264, LEAST, LEAST + 8, MOST}) {
            checks.dueThrow("feed(" + n + ")", () -> house.feed(n, text), ARGUMENT);
        }
        checks.due("wipe behind refused feeds", house.wipe(), 0);
        // what is above the n lowest bytes does not count, nor does the sign
        checks.due("feed(6) with more above", house.feed(6, text | 0xffff000000000000L), 6);
        checks.due("compile of main{}", house.compile(), 0);
        checks.due("feed(8) of -1", house.feed(8, -1L), 14);
        checks.due("compile behind bytes 255", house.compile(), -1);
        checks.due("place behind bytes 255", house.fault(0), 6);
        house.wipe();
        checks.due("feed(1) of the least long", house.feed(1, Long.MIN_VALUE | ' '), 1);
        checks.due("compile of a blank", house.compile(), 0);
    }

    private static final long BLANKS = 0x2020202020202020L;

    private static WeaveHouse blanks(int size) {
        WeaveHouse house = new WeaveHouse();
        for (int i = 0; i + 8 <= size; i += 8) {
            house.feed(8, BLANKS);
        }
        if (size % 8 != 0) {
            house.feed(size % 8, BLANKS);
        }
        return house;
    }

    private static void feedFull(Checks checks) {
        for (int n = 1; n <= 8; n++) {
            int bytes = n;
            checks.due("feed(" + n + ") up to 5000", blanks(5000 - n).feed(n, BLANKS), 5000);
            WeaveHouse house = blanks(5001 - n);
            checks.dueThrow("feed(" + n + ") up to 5001", () -> house.feed(bytes, BLANKS), ARGUMENT);
            checks.due("wipe behind it", house.wipe(), 5001 - n);
            WeaveHouse full = blanks(5000);
            checks.dueThrow("feed(" + n + ") of a full text", () -> full.feed(bytes, BLANKS), ARGUMENT);
            checks.due("bytes of a full text", full.wipe(), 5000);
            checks.due("feed(" + n + ") behind a full text that was wiped", full.feed(n, BLANKS), n);
        }
        WeaveHouse full = blanks(5000);
        checks.dueThrow("feed(most) of a full text", () -> full.feed(MOST, 0), ARGUMENT);
        checks.due("compile of a full text", full.compile(), 0);
    }

    private static final String SOUND = "class A { field x; } aspect P { field n; warn make \"A\"; before () make \"A\" { n = 1; } } main { new A(); print 7; print 8; }";

    /** A feed that is refused leaves the text, what was compiled, and its RUN; one that is not ends both. */
    private static void refusedFeed(Checks checks) {
        WeaveHouse house = Checks.compiled(SOUND);
        house.begin(false);
        house.run(3);
        checks.dueThrow("feed(0) in a RUN", () -> house.feed(0, 32), ARGUMENT);
        checks.dueThrow("feed(9) in a RUN", () -> house.feed(9, 32), ARGUMENT);
        checks.due("count(0) behind it", house.count(0), 1);
        checks.due("STEPS behind it", house.told(0), 3);
        checks.due("run behind it", house.run(1), 0);
        checks.due("THE OUTPUT behind it", Checks.output(house), "7 8");
        WeaveHouse full = Checks.compiled(SOUND + " ".repeat(5000 - SOUND.length()));
        full.begin(true);
        checks.dueThrow("feed(1) of a full text in a RUN", () -> full.feed(1, 32), ARGUMENT);
        checks.due("run of the full text", full.run(2000), 0);
        checks.due("bytes of the full text", full.wipe(), 5000);
        house.feed(1, 32);
        dueNothingCompiled(checks, "behind a feed", house);
        checks.due("compile again", house.compile(), 1);
        dueNoRun(checks, "behind a compile", house);
    }

    private static void wipe(Checks checks) {
        WeaveHouse house = Checks.done(SOUND, true);
        checks.due("wipe", house.wipe(), SOUND.length());
        dueNothingCompiled(checks, "behind a wipe", house);
        checks.due("wipe of the empty text", house.wipe(), 0);
        checks.due("compile of the empty text", house.compile(), 0);
        checks.due("begin of the empty text", house.begin(true), 0);
        checks.due("wipe of a compiled empty text", house.wipe(), 0);
        dueNothingCompiled(checks, "behind the wipe of an empty text", house);
        checks.due("wipe of 4999", blanks(4999).wipe(), 4999);
        checks.due("wipe of 1", blanks(1).wipe(), 1);
    }

    private static void compile(Checks checks) {
        String[] wrong = {"!", "x", "main { none.f(1, 2, 3, 4, 5, 6, 7); }", "main { } main { }", "main { x = 1; }", "aspect P { before (o) catch { } }",
                "aspect P { warn call \"a+\"; }", "main { try { } catch e { } } aspect P { bar catch; }"};
        for (int i = 0; i < wrong.length; i++) {
            WeaveHouse house = Checks.done(SOUND, false);
            house.wipe();
            Checks.feed(house, wrong[i]);
            checks.due("compile of " + wrong[i], house.compile(), -1 - i);
            dueNothingCompiled(checks, "behind the compile of " + wrong[i], house);
            checks.due("compile again of " + wrong[i], house.compile(), -1 - i);
            checks.due("bytes of " + wrong[i], house.wipe(), wrong[i].length());
        }
        checks.due("compile without POINTS", Checks.fed("class A { }").compile(), 0);
        checks.due("compile of one POINT", Checks.fed("class A { method m() { } }").compile(), 1);
        WeaveHouse house = Checks.done(SOUND, false);
        checks.due("compile behind a RUN", house.compile(), 1);
        checks.due("count(0) then", house.count(0), 1);
        dueNoRun(checks, "behind a compile", house);
    }

    private static void fault(Checks checks) {
        WeaveHouse house = Checks.fed("main {\n\n }\n");
        dueRange(checks, "fault", house::fault, 0, 1, OUT);
        house.feed(1, '}');
        checks.due("fault(0) before compile", house.fault(0), -1);
        house.compile();
        checks.due("fault(0)", house.fault(0), 11);
        checks.due("fault(1)", house.fault(1), 4);
        dueRange(checks, "fault of a FAULT", house::fault, 0, 1, OUT);
        house.feed(1, '\n');
        house.wipe();
        Checks.feed(house, "\n\n\n\n\n\n\n\n\n\n\n\n\n\n");
        checks.due("fault(0) behind wipe and feed", house.fault(0), 11);
        checks.due("fault(1) behind wipe and feed", house.fault(1), 4);
        house.compile();
        checks.due("fault(0) of what is sound", house.fault(0), -1);
        checks.due("fault(1) of what is sound", house.fault(1), -1);
        house.feed(1, '!');
        house.compile();
        checks.due("fault(0) of the next", house.fault(0), 14);
        checks.due("fault(1) of the next", house.fault(1), 15);
        checks.due("fault(0) at the first byte", Checks.fed("}").compile(), -2);
        checks.dueFault("^}", 2);
    }

    private static void count(Checks checks) {
        WeaveHouse house = Checks.compiled(times(12, "class C# { method m() { } method n() { } method o() { } method p() { } method q() { } } ")
                + times(8, "aspect P# { warn run \"*\"; pick p() = catch; pick q() = catch; pick r() = catch; } "));
        int[] wanted = {12, 60, 8, 0, 60, 24, 480};
        for (int what = 0; what <= 6; what++) {
            checks.due("count(" + what + ")", house.count(what), wanted[what]);
        }
        dueRange(checks, "count", house::count, 0, 6, OUT);
        dueRange(checks, "count of nothing", new WeaveHouse()::count, 0, 6, OUT);
        checks.due("count(3)", Checks.compiled("aspect P { " + times(24, "behind () catch { } ") + "}").count(3), 24);
        WeaveHouse none = Checks.compiled("");
        for (int what = 0; what <= 6; what++) {
            checks.due("count(" + what + ") of the empty text", none.count(what), 0);
        }
    }

    private static final String MANY = "main { let a = 1; a" + times(399, ".x") + ".y = 1; }";

    private static void point(Checks checks) {
        WeaveHouse house = Checks.compiled(MANY);
        WeaveHouse places = Checks.compiled(MANY);
        for (int i = 0; i < 400; i++) {
            checks.due("place of " + i, places.point(i, 1), 19 + 2 * i);
        }
        for (int i = 0; i < 400; i += 19) {
            checks.due("kind of " + i, house.point(i, 0), i < 399 ? 3 : 4);
            checks.due("ARGS of " + i, house.point(i, 2), i < 399 ? 0 : 1);
        }
        dueRange(checks, "point(i)", i -> house.point(i, 1), 0, 399, OUT);
        dueRange(checks, "point(0, what)", what -> house.point(0, what), 0, 4, OUT);
        dueRange(checks, "point(399, what)", what -> house.point(399, what), 0, 4, OUT);
        dueNone(checks, "point without POINTS", i -> Checks.compiled("class A { }").point(i, 0), OUT);
        checks.dueThrow("point(0) without POINTS", () -> Checks.compiled("main { }").point(0, 0), OUT);
        String six = "class A { method m(a, b, c, d, e, f) { } method n() { } } main { none.m(1, 2, 3, 4, 5, 6); new A(1, 2, 3, 4, 5, 6); none.x = none.x; "
                + "try { none.m(); } catch e { new A(); } } aspect P { before () catch { } around () catch { none.x = 1; } }";
        String[] wanted = {"1 6 1 0", "1 0 1 1", "0 6 0 0", "2 6 0 0", "4 1 0 0", "3 0 0 0", "0 0 0 0", "5 1 0 0", "2 0 0 0", "4 1 2 1"};
        WeaveHouse kinds = Checks.compiled(six);
        for (int i = 0; i < wanted.length; i++) {
            checks.due("POINT " + i, kinds.point(i, 0) + " " + kinds.point(i, 2) + " " + kinds.point(i, 3) + " " + kinds.point(i, 4), wanted[i]);
        }
        dueRange(checks, "point(i) of ten", i -> kinds.point(i, 4), 0, 9, OUT);
    }

    /** 24 advice at some 350 POINTS; also none of the one or of the other. */
    private static void meets(Checks checks) {
        String names = "abcdefg";
        StringBuilder text = new StringBuilder("main { let z = 1; z");
        for (int i = 0; i < 330; i++) {
            text.append('.').append(names.charAt(i % 7));
        }
        text.append(".h = 1; } aspect P { ");
        for (int i = 0; i < 24; i++) {
            text.append("before () get \"").append(i < 12 ? "" : "C.").append(names.charAt(i % 7)).append("\" { } ");
        }
        text.append("} class C { }");
        for (int a = 0; a < 24; a++) {
            WeaveHouse known = Checks.compiled(text.toString());
            WeaveHouse left = Checks.compiled(text.toString());
            for (int i = 0; i < 331; i++) {
                boolean same = i < 330 && i % 7 == a % 7;
                checks.due("meets(" + a + ", " + i + ", 0)", known.meets(a, i, 0), !same ? 0 : a < 12 ? 1 : 2);
                checks.due("meets(" + a + ", " + i + ", 1)", left.meets(a, i, 1), same && a >= 12 ? 1 : 0);
            }
        }
        WeaveHouse house = Checks.compiled(text.toString());
        dueRange(checks, "meets(advice)", a -> house.meets(a, 5, 0), 0, 23, OUT);
        dueRange(checks, "meets(0, i)", i -> house.meets(0, i, 1), 0, 330, OUT);
        dueRange(checks, "meets(23, 330, what)", what -> house.meets(23, 330, what), 0, 1, OUT);
        checks.dueThrow("meets without advice", () -> Checks.compiled(MANY).meets(0, 0, 0), OUT);
        checks.dueThrow("meets without POINTS", () -> Checks.compiled("aspect P { before () catch { } }").meets(0, 0, 0), OUT);
    }

    private static void finding(Checks checks) {
        WeaveHouse house = Checks.compiled(MANY + " aspect P { " + times(11, "warn not catch; ") + "warn if (1); }");
        checks.due("count(6)", house.count(6), 4800);
        for (int k = 0; k < 4800; k += 397) {
            checks.due("bar of " + k, house.finding(k, 0), k / 400);
            checks.due("warn of " + k, house.finding(k, 1), 1);
            checks.due("POINT of " + k, house.finding(k, 2), k % 400);
            checks.due("known of " + k, house.finding(k, 3), k < 4400 ? 1 : 2);
        }
        checks.due("the last's bar", house.finding(4799, 0), 11);
        checks.due("the last's POINT", house.finding(4799, 2), 399);
        dueRange(checks, "finding(k)", k -> house.finding(k, 0), 0, 4799, OUT);
        dueRange(checks, "finding(0, what)", what -> house.finding(0, what), 0, 3, OUT);
        dueRange(checks, "finding(4799, what)", what -> house.finding(4799, what), 0, 3, OUT);
        checks.dueThrow("finding of none", () -> Checks.compiled(MANY + " aspect P { warn catch; bar call \"x\"; }").finding(0, 0), OUT);
        WeaveHouse bars = Checks.compiled("main { none.f(); } aspect P { bar if (1); } aspect Q { warn call \"f\"; bar not if (1); }");
        String[] wanted = {"0 0 0 2", "1 1 0 1", "2 0 0 2"};
        for (int k = 0; k < 3; k++) {
            checks.due("finding " + k, bars.finding(k, 0) + " " + bars.finding(k, 1) + " " + bars.finding(k, 2) + " " + bars.finding(k, 3), wanted[k]);
        }
        dueRange(checks, "finding of three", k -> bars.finding(k, 3), 0, 2, OUT);
    }

    private static void ordered(Checks checks) {
        String aspects = times(8, "aspect P# { before () catch { } behind () catch { } around () catch { } } ");
        WeaveHouse plain = Checks.compiled(aspects);
        WeaveHouse turned = Checks.compiled("order P7, P6, P5; " + aspects + "order P4; order P3, P2; order P1, P0;");
        WeaveHouse some = Checks.compiled(aspects + "order P6; order P7, P2;");
        int[] ranks = {6, 7, 2, 0, 1, 3, 4, 5};
        for (int k = 0; k < 24; k++) {
            checks.due("ordered(" + k + ")", plain.ordered(k), k);
            checks.due("ordered(" + k + ") turned", turned.ordered(k), (7 - k / 3) * 3 + k % 3);
            checks.due("ordered(" + k + ") of some", some.ordered(k), ranks[k / 3] * 3 + k % 3);
        }
        dueRange(checks, "ordered", plain::ordered, 0, 23, OUT);
        checks.dueThrow("ordered without advice", () -> Checks.compiled("aspect P { warn catch; } order P;").ordered(0), OUT);
        dueRange(checks, "ordered of one", Checks.compiled("aspect P { before () catch { } }")::ordered, 0, 0, OUT);
    }

    private static void above(Checks checks) {
        WeaveHouse house = Checks.compiled("class C0 { } " + chain(12, ""));
        for (int k = 0; k < 12; k++) {
            checks.due("above(" + k + ")", house.above(k), k - 1);
        }
        dueRange(checks, "above", house::above, 0, 11, OUT);
        checks.dueThrow("above without classes", () -> Checks.compiled("main { }").above(0), OUT);
        dueRange(checks, "above of one", Checks.compiled("class A { }")::above, 0, 0, OUT);
    }

    /** Classes 1 to n - 1, each under the one before it. */
    private static String chain(int n, String members) {
        StringBuilder all = new StringBuilder();
        for (int i = 1; i < n; i++) {
            all.append("class C").append(i).append(" under C").append(i - 1).append(" { ").append(members).append("} ");
        }
        return all.toString();
    }

    private static void begin(Checks checks) {
        for (String none : new String[] {"", "class A { method m() { print 1; } }", "main { }", "aspect P { before () catch { print 1; } }", "main { // print 1;\n }"}) {
            for (int woven = 0; woven < 2; woven++) {
                WeaveHouse house = Checks.compiled(none);
                checks.due("begin of " + none, house.begin(woven == 1), 0);
                int[] wanted = {0, 0, 0, 0, 0, 0, 0};
                for (int what = 0; what <= 6; what++) {
                    checks.due("told(" + what + ") of " + none, house.told(what), wanted[what]);
                }
                checks.due("run(1) of " + none, house.run(1), 0);
                checks.due("run(2000) of " + none, house.run(2000), 0);
                checks.due("STEPS of " + none, house.told(0), 0);
                checks.dueThrow("output of " + none, () -> house.output(0, 0), OUT);
            }
        }
        for (String one : new String[] {"main { return; }", "main { while 0 { } }", "main { throw 1; }"}) {
            checks.due("begin of " + one, Checks.compiled(one).begin(true), 1);
        }
        // a RUN may begin at any time, from its beginning
        WeaveHouse house = Checks.compiled("class A { field x; method m() { print 5; throw self; } } main { print 1; let a = new A(); a.x = 2; a.m(); } "
                + "aspect P { field n; before () call \"m\" { n = 1; } }");
        for (int steps = 0; steps < 9; steps++) {
            checks.due("begin behind " + steps, house.begin(steps % 2 == 0), 1);
            for (int what = 0; what <= 6; what++) {
                checks.due("told(" + what + ") behind " + steps, house.told(what), what == 5 ? 1 : 0);
            }
            checks.due("failure behind " + steps, house.failure(0), 0);
            checks.due("held behind " + steps, house.held(0, 0, 0, 0), 0);
            checks.dueThrow("object behind " + steps, () -> house.object(1, -1, 0), OUT);
            checks.dueThrow("output behind " + steps, () -> house.output(0, 0), OUT);
            checks.dueThrow("row behind " + steps, () -> house.row(0, 0), OUT);
            if (steps > 0) {
                house.run(steps);
            }
        }
    }

    /** A main of that many STEPS, an even number: let, then looks and what is in them. */
    private static WeaveHouse steps(int n) {
        WeaveHouse house = Checks.compiled("main { let n = 0; while n < " + (n / 2 - 1) + " { n = n + 1; } }");
        house.begin(false);
        return house;
    }

    private static void run(Checks checks) {
        WeaveHouse house = steps(10);
        for (int n : new int[] {LEAST, -2000, -1, 0, 2001, 4000, MOST}) {
            checks.dueThrow("run(" + n + ")", () -> house.run(n), ARGUMENT);
        }
        checks.due("STEPS behind refused runs", house.told(0), 0);
        checks.due("run(9) of 10", house.run(9), 1);
        checks.due("run(1) of 1", house.run(1), 0);
        checks.due("STEPS", house.told(0), 10);
        checks.due("run(1) of 0", house.run(1), 0);
        checks.due("run(2000) of 0", house.run(2000), 0);
        checks.due("STEPS still", house.told(0), 10);
        checks.dueThrow("run(0) behind the end", () -> house.run(0), ARGUMENT);
        checks.dueThrow("run(2001) behind the end", () -> house.run(2001), ARGUMENT);
        checks.due("run(2000) of 1998", steps(1998).run(2000), 0);
        checks.due("run(2000) of 2000", steps(2000).run(2000), 0);
        checks.due("run(1999) of 2000", steps(2000).run(1999), 1);
        WeaveHouse more = steps(2002);
        checks.due("run(2000) of 2002", more.run(2000), 1);
        checks.due("STEPS of 2002", more.told(0), 2000);
        checks.due("run(1) of 2", more.run(1), 1);
        checks.due("run(2000) of 1", more.run(2000), 0);
        checks.due("all STEPS", more.told(0), 2002);
        WeaveHouse fails = Checks.compiled("main { print 1; throw 2; print 3; }");
        fails.begin(true);
        checks.due("run(1) of what fails", fails.run(1), 1);
        checks.due("run(1) that fails", fails.run(1), 2);
        checks.due("run(1) of what has failed", fails.run(1), 2);
        checks.due("run(2000) of what has failed", fails.run(2000), 2);
        checks.due("STEPS of what has failed", fails.told(0), 2);
        checks.dueThrow("run(0) of what has failed", () -> fails.run(0), ARGUMENT);
    }

    private static void told(Checks checks) {
        WeaveHouse house = Checks.compiled("class A { method m() { print 1; } } main { let a = new A(); a.m(); throw a; } aspect P { before () call \"m\" { } }");
        house.begin(false);
        dueRange(checks, "told at the beginning", house::told, 0, 6, OUT);
        String[] wanted = {"1 1 0 0 1 1 0", "2 3 0 1 1 1 1", "3 3 1 1 1 1 0", "4 3 1 1 1 2 0"};
        // a STEP goes on to the next: let makes; a.m() has the before done and m entered
        for (int i = 0; i < 4; i++) {
            house.run(1);
            StringBuilder all = new StringBuilder();
            for (int what = 0; what <= 6; what++) {
                all.append(what == 0 ? "" : " ").append(house.told(what));
            }
            checks.due("told behind STEP " + (i + 1), all.toString(), wanted[i]);
        }
        dueRange(checks, "told at the end", house::told, 0, 6, OUT);
    }

    private static void output(Checks checks) {
        for (int n : new int[] {1, 299, 300, 301, 350}) {
            WeaveHouse house = Checks.done("main { let n = 0; while n < " + n + " { print 0 - n; n = n + 1; } }", true);
            int kept = Math.min(n, 300);
            checks.due("values of " + n, house.told(2), n);
            checks.due("the last kept of " + n, house.output(kept - 1, 1), 1 - kept);
            dueRange(checks, "output(i) of " + n, i -> house.output(i, 1), 0, kept - 1, OUT);
            dueRange(checks, "output(0, what)", what -> house.output(0, what), 0, 1, OUT);
            dueRange(checks, "output(last, what)", what -> house.output(kept - 1, what), 0, 1, OUT);
        }
        WeaveHouse kinds = Checks.done("class A { } main { print none; print 0; print 0 - 1; print 1; new A(); print new A(); print 65536 * 32768; }", false);
        String[] wanted = {"0 0", "1 0", "1 -1", "1 1", "2 2", "1 -2147483648"};
        for (int i = 0; i < wanted.length; i++) {
            checks.due("output " + i, kinds.output(i, 0) + " " + kinds.output(i, 1), wanted[i]);
        }
        checks.dueThrow("output of none", () -> Checks.done("main { return; }", true).output(0, 0), OUT);
    }

    private static void failure(Checks checks) {
        String[] thrown = {"none", "0 0", "0", "1 0", "0 - 1", "1 -1", "65536 * 32768 - 1", "1 2147483647", "65536 * 32768", "1 -2147483648", "new A()", "2 1"};
        for (int i = 0; i < thrown.length; i += 2) {
            WeaveHouse house = Checks.compiled("class A { } main { print 1; throw " + thrown[i] + "; }");
            house.begin(true);
            house.run(1);
            checks.due("failure before it", house.failure(0) + " " + house.failure(1), "0 0");
            checks.due("run", house.run(1), 2);
            checks.due("failure of " + thrown[i], house.failure(0) + " " + house.failure(1), thrown[i + 1]);
            dueRange(checks, "failure", house::failure, 0, 1, OUT);
        }
        WeaveHouse ended = Checks.done("main { try { throw 5; } catch e { } }", false);
        checks.due("failure of what has ended", ended.failure(0) + " " + ended.failure(1), "0 0");
        dueRange(checks, "failure of what has ended", ended::failure, 0, 1, OUT);
    }

    private static void row(Checks checks) {
        for (int n : new int[] {1, 299, 300, 301, 350}) {
            WeaveHouse house = Checks.done("main { let n = 0; while n < " + n + " { none.x = 1; n = n + 1; } } aspect P { around () set \"y\" { } around () set \"x\" { } }", false);
            int kept = Math.min(n, 300);
            checks.due("ROWS of " + n, house.told(3), n);
            checks.due("the last kept of " + n, house.row(kept - 1, 0), 1);
            dueRange(checks, "row(i) of " + n, i -> house.row(i, 1), 0, kept - 1, OUT);
            dueRange(checks, "row(last, what)", what -> house.row(kept - 1, what), 0, 1, OUT);
        }
        // those of an earlier RUN are no more
        WeaveHouse house = Checks.done("main { none.x = 1; none.y = 1; } aspect P { around () set \"y\" { } around () set \"*\" { } }", true);
        checks.due("ROWS", Checks.rows(house), "1@0 0@1");
        house.wipe();
        Checks.feed(house, "main { none.y = 1; none.x = 1; } aspect P { around () set \"y\" { } around () set \"*\" { } }");
        house.compile();
        house.begin(true);
        checks.dueThrow("row(0) of the next RUN", () -> house.row(0, 0), OUT);
        house.run(1);
        checks.due("ROWS of the next RUN", Checks.rows(house), "0@0");
        house.run(1);
        checks.due("ROWS of the next RUN", Checks.rows(house), "0@0 1@1");
        checks.dueThrow("row(2) of the next RUN", () -> house.row(2, 0), OUT);
    }

    private static void object(Checks checks) {
        WeaveHouse many = Checks.done("class B { } class A { field x; method init(v) { self.x = v; } } main { let n = 0; while 1 { n = n + 1; new A(n); } }", true);
        checks.due("OBJECTS", many.told(4), 200);
        for (int o = 1; o <= 200; o++) {
            checks.due("field of " + o, many.object(o, 0, 1), o);
        }
        dueRange(checks, "object(o)", o -> many.object(o, -1, 0), 1, 200, OUT);
        dueRange(checks, "object(200, i)", i -> many.object(200, i, 0), -1, 0, OUT);
        dueRange(checks, "object(200, -1, what)", what -> many.object(200, -1, what), 0, 0, OUT);
        dueRange(checks, "object(200, 0, what)", what -> many.object(200, 0, what), 0, 1, OUT);
        checks.dueThrow("object(1) of none", () -> Checks.done("main { return; }", true).object(1, -1, 0), OUT);
        // twelve classes with ten fields each
        String ten = times(10, "field f#; ");
        WeaveHouse deep = Checks.done("class C0 { " + ten + "method m() { self.f0 = 1; } } " + chain(12, ten)
                + "main { let a = new C11(); a.f9 = 7; a.f0 = 8; let b = new C0(); b.f9 = b; }", false);
        checks.due("class of the deep one", deep.object(1, -1, 0), 11);
        checks.due("its last field", deep.object(1, 119, 1), 7);
        checks.due("its tenth before the end", deep.object(1, 110, 1), 8);
        checks.due("its first field", deep.object(1, 0, 0), 0);
        checks.due("class of the other", deep.object(2, -1, 0), 0);
        checks.due("last of the other", deep.object(2, 9, 0) + " " + deep.object(2, 9, 1), "2 2");
        dueRange(checks, "object(1, i)", i -> deep.object(1, i, 0), -1, 119, OUT);
        dueRange(checks, "object(2, i)", i -> deep.object(2, i, 0), -1, 9, OUT);
        dueRange(checks, "object(2, 9, what)", what -> deep.object(2, 9, what), 0, 1, OUT);
        WeaveHouse bare = Checks.done("class A { } main { new A(); }", true);
        dueRange(checks, "object(1, i) without fields", i -> bare.object(1, i, 0), -1, -1, OUT);
    }

    private static void held(Checks checks) {
        String ten = times(10, "field f#; ");
        WeaveHouse house = Checks.done("class A { method init() { } } aspect P0 { " + ten + "before () run \"init\" { f9 = 3; f0 = 4; } } "
                + times(6, "aspect Q# { } ") + "aspect P7 each object { " + ten + "before (o) run \"init\" and self(o) { f9 = o; f0 = 5; } } "
                + "main { while 1 { new A(); } }", true);
        checks.due("OBJECTS", house.told(4), 200);
        for (int o = 1; o <= 200; o++) {
            checks.due("held of " + o, house.held(7, o, 9, 1), o);
        }
        for (int o = 1; o <= 200; o += 199) {
            checks.due("kind held of " + o, house.held(7, o, 9, 0), 2);
            checks.due("held(0) of " + o, house.held(7, o, 0, 1), 5);
            checks.due("held(1) of " + o, house.held(7, o, 1, 0), 0);
        }
        checks.due("held of the first", house.held(0, 0, 9, 1), 3);
        checks.due("held(0) of the first", house.held(0, 0, 0, 1), 4);
        dueRange(checks, "held(7, o)", o -> house.held(7, o, 9, 0), 1, 200, OUT);
        dueRange(checks, "held(7, 200, i)", i -> house.held(7, 200, i, 0), 0, 9, OUT);
        dueRange(checks, "held(7, 200, 9, what)", what -> house.held(7, 200, 9, what), 0, 1, OUT);
        dueRange(checks, "held(0, o)", o -> house.held(0, o, 0, 0), 0, 0, OUT);
        dueRange(checks, "held(0, 0, i)", i -> house.held(0, 0, i, 0), 0, 9, OUT);
        dueRange(checks, "held(0, 0, 0, what)", what -> house.held(0, 0, 0, what), 0, 1, OUT);
        for (int aspect : new int[] {LEAST, -1, 1, 6, 8, MOST}) {
            checks.dueThrow("held(" + aspect + ", 0, 0, 0)", () -> house.held(aspect, 0, 0, 0), OUT);
            checks.dueThrow("held(" + aspect + ", 1, 0, 0)", () -> house.held(aspect, 1, 0, 0), OUT);
        }
        checks.dueThrow("held without aspects", () -> Checks.done("main { return; }", true).held(0, 0, 0, 0), OUT);
        // of an aspect each object there is one for each OBJECT, and none before there are any
        WeaveHouse slow = Checks.compiled("class A { } aspect P each object { field n; } main { new A(); print 1; }");
        slow.begin(false);
        checks.dueThrow("held(0, 1) before it is made", () -> slow.held(0, 1, 0, 0), OUT);
        slow.run(1);
        checks.due("held(0, 1) when it is made", slow.held(0, 1, 0, 0), 0);
        checks.dueThrow("held(0, 2)", () -> slow.held(0, 2, 0, 0), OUT);
    }

    /** Two thousand million TESTS and ROWS are too many to make here; so the counters are set close to their end. */
    private static void mostCounted(Checks checks) throws Exception {
        WeaveHouse house = Checks.compiled("main { let n = 0; while n < 4 { none.x = 1; n = n + 1; } } aspect P { around () set \"x\" and if (1) { } }");
        house.begin(true);
        house.run(2);
        Object store = field(WeaveHouse.class, "store").get(house);
        field(store.getClass(), "tests").setInt(store, MOST - 2);
        field(store.getClass(), "rows").setInt(store, MOST - 2);
        int[] wanted = {MOST - 1, MOST, MOST, MOST};
        for (int i = 0; i < 4; i++) {
            house.run(3);
            checks.due("TESTS behind " + i, house.told(1), wanted[i]);
            checks.due("ROWS behind " + i, house.told(3), wanted[i]);
        }
        checks.due("the RUN goes on to its end", house.run(2000), 0);
    }

    private static Field field(Class<?> type, String name) throws Exception {
        Field found = type.getDeclaredField(name);
        found.setAccessible(true);
        return found;
    }
}
