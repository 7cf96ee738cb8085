/** Promises 1 to 3 and 5, and what the states of an object allow: a new object, feed, wipe, fault, no RUN. */
public final class FaceTest {
    private static final String OUT = "IndexOutOfBoundsException";
    private static final String STATE = "IllegalStateException";
    private static final String ARGUMENT = "IllegalArgumentException";

    public static void main(String[] args) {
        Checks checks = new Checks("FaceTest");
        newObject(checks);
        feeding(checks);
        fullText(checks);
        wiping(checks);
        nothingCompiled(checks, new WeaveHouse(), "a new object");
        feedingEndsAll(checks);
        wipingEndsAll(checks);
        faultStays(checks);
        wrongCompileEndsAll(checks);
        checks.end();
    }

    private static void newObject(Checks checks) {
        WeaveHouse house = new WeaveHouse();
        checks.due("NONE", WeaveHouse.NONE, -1);
        checks.due("wipe of a new object", house.wipe(), 0);
        checks.due("fault(0) of a new object", house.fault(0), -1);
        checks.due("fault(1) of a new object", house.fault(1), -1);
        checks.due("compile of the empty text", house.compile(), 0);
        checks.due("begin of the empty text", house.begin(false), 0);
        checks.due("run of the empty text", house.run(1), 0);
        checks.due("told(5) of the empty text", house.told(5), 0);
    }

    private static void feeding(Checks checks) {
        WeaveHouse house = new WeaveHouse();
        checks.dueThrow("feed(0)", () -> house.feed(0, 1), ARGUMENT);
        checks.dueThrow("feed(9)", () -> house.feed(9, 1), ARGUMENT);
        checks.dueThrow("feed(-1)", () -> house.feed(-1, 1), ARGUMENT);
        checks.dueThrow("feed(least)", () -> house.feed(Integer.MIN_VALUE, 1), ARGUMENT);
        // "main{}" and bytes above it that are not taken
        checks.due("feed(4)", house.feed(4, 0xFFFFFFFF00000000L | 'm' | 'a' << 8 | 'i' << 16 | 'n' << 24), 4);
        checks.due("feed(2)", house.feed(2, 0x7F7F00 << 16 | '{' | '}' << 8), 6);
        checks.due("compile", house.compile(), 0);
        checks.due("bytes", house.wipe(), 6);
    }

    private static void fullText(Checks checks) {
        WeaveHouse house = new WeaveHouse();
        for (int i = 0; i < 624; i++) {
            house.feed(8, 0x2020202020202020L);
        }
        checks.due("feed up to 4999", house.feed(7, 0x2020202020202020L), 4999);
        checks.dueThrow("feed over 5000", () -> house.feed(2, 0x2020), ARGUMENT);
        checks.due("feed up to 5000", house.feed(1, '!'), 5000);
        checks.dueThrow("feed of a full text", () -> house.feed(1, ' '), ARGUMENT);
        checks.due("compile of a full text", house.compile(), -1);
        checks.due("place of its FAULT", house.fault(0), 4999);
        checks.due("wipe of a full text", house.wipe(), 5000);
        checks.due("feed behind it", house.feed(1, ' '), 1);
    }

    private static void wiping(Checks checks) {
        WeaveHouse house = Checks.fed("main { } junk");
        checks.due("wipe", house.wipe(), 13);
        checks.due("wipe again", house.wipe(), 0);
        Checks.feed(house, "class A { }");
        checks.due("compile of what came later", house.compile(), 0);
        checks.due("classes", house.count(0), 1);
    }

    private static void nothingCompiled(Checks checks, WeaveHouse house, String when) {
        for (int what = 0; what <= 6; what++) {
            checks.due("count(" + what + ") of " + when, house.count(what), 0);
        }
        checks.dueThrow("point of " + when, () -> house.point(0, 0), OUT);
        checks.dueThrow("meets of " + when, () -> house.meets(0, 0, 0), OUT);
        checks.dueThrow("finding of " + when, () -> house.finding(0, 0), OUT);
        checks.dueThrow("ordered of " + when, () -> house.ordered(0), OUT);
        checks.dueThrow("above of " + when, () -> house.above(0), OUT);
        checks.dueThrow("begin of " + when, () -> house.begin(true), STATE);
        noRun(checks, house, when);
    }

    /** Without a RUN that comes before all else that is wrong with a call. */
    private static void noRun(Checks checks, WeaveHouse house, String when) {
        checks.dueThrow("run of " + when, () -> house.run(1), STATE);
        checks.dueThrow("run(0) of " + when, () -> house.run(0), STATE);
        checks.dueThrow("told of " + when, () -> house.told(0), STATE);
        checks.dueThrow("told(9) of " + when, () -> house.told(9), STATE);
        checks.dueThrow("output of " + when, () -> house.output(0, 0), STATE);
        checks.dueThrow("failure of " + when, () -> house.failure(0), STATE);
        checks.dueThrow("failure(2) of " + when, () -> house.failure(2), STATE);
        checks.dueThrow("row of " + when, () -> house.row(0, 0), STATE);
        checks.dueThrow("object of " + when, () -> house.object(1, -1, 0), STATE);
        checks.dueThrow("held of " + when, () -> house.held(0, 0, 0, 0), STATE);
    }

    private static final String SOUND =
            "class A { field x; } aspect P { field n; before () make \"A\" { n = 1; } } main { new A(); print 7; }";

    private static void feedingEndsAll(Checks checks) {
        WeaveHouse house = Checks.done(SOUND, false);
        checks.due("values", house.told(2), 1);
        checks.dueThrow("feed(0)", () -> house.feed(0, 0), ARGUMENT);
        checks.due("values behind a feed that throws", house.told(2), 1);
        checks.due("compile of the same text", house.compile(), 1);
        noRun(checks, house, "the same text that is compiled again");
        checks.due("begin", house.begin(false), 1);
        house.feed(1, ' ');
        nothingCompiled(checks, house, "a text that got longer");
        house.compile();
        noRun(checks, house, "a text that is compiled again");
    }

    private static void wipingEndsAll(Checks checks) {
        WeaveHouse house = Checks.done(SOUND, true);
        house.wipe();
        nothingCompiled(checks, house, "a text that was wiped");
    }

    private static void faultStays(Checks checks) {
        WeaveHouse house = Checks.fed("main {\n }\n junk");
        checks.due("compile", house.compile(), -2);
        checks.due("place", house.fault(0), 11);
        checks.due("LINE", house.fault(1), 3);
        house.feed(1, '\n');
        checks.due("place behind feed", house.fault(0), 11);
        house.wipe();
        checks.due("place behind wipe", house.fault(0), 11);
        checks.due("LINE behind wipe", house.fault(1), 3);
        house.compile();
        checks.due("place behind the next compile", house.fault(0), -1);
        checks.due("LINE behind the next compile", house.fault(1), -1);
        checks.dueThrow("fault(-1)", () -> house.fault(-1), OUT);
        checks.dueThrow("fault(2)", () -> house.fault(2), OUT);
    }

    private static void wrongCompileEndsAll(Checks checks) {
        WeaveHouse house = Checks.done(SOUND, false);
        Checks.feed(house, "main { }");
        checks.due("compile with a FAULT", house.compile(), -4);
        nothingCompiled(checks, house, "a text with a FAULT");
        checks.dueThrow("count(-1)", () -> house.count(-1), OUT);
        checks.dueThrow("count(7)", () -> house.count(7), OUT);
    }
}
