import java.util.ArrayList;
import java.util.List;

/**
 * All promises at once: texts and calls by a fixed row of numbers. Nothing but the exceptions of the face may come out,
 * LOOKING and WOVEN have to do the same, the same calls have to give the same answers again, and so has an object that
 * has had other texts before.
 */
public final class SoupTest {
    private static final String[] PIECES = ("class A { field x ; method f ( a ) { return a ; } } |class B under A { method init ( ) { self . x = 1 ; } method g ( ) { self . f ( 1 ) ; } } "
            + "|aspect P { field n ; before ( ) call \"f\" { n = 1 ; } } |aspect Q each object { around ( o ) self ( o ) { return go ; } } "
            + "|main { let b = new B ( ) ; try { b . g ( ) ; b . x = b ; print b . x ; } catch e { print e ; } } |order Q , P ; "
            + "|aspect R { pick p ( o ) = target ( o ) ; behind ( o ) give r p ( o ) and not flow ( catch ) { print r ; } before ( ) within \"R.advice\" or within \"main\" and get \"x\" { print 8 ; } warn catch ; } "
            + "|in A field y ; |if ( n == none ) |{ |} |( |) |; |and |or |not |go |self |none |1 |+ |is A |. x |. f ( 2 ) |while 0 |throw 3 ; ").split("\\|");

    private long seed = 1;

    private int pick(int most) {
        seed = seed * 6364136223846793005L + 1442695040888963407L;
        return (int) ((seed >>> 33) % most);
    }

    public static void main(String[] args) {
        Checks checks = new Checks("SoupTest");
        SoupTest soup = new SoupTest();
        WeaveHouse house = new WeaveHouse();
        int sound = 0;
        for (int i = 0; i < 4000; i++) {
            sound += soup.once(checks, house, i);
        }
        checks.due("some texts are sound", sound > 500 ? 1 : 0, 1);
        for (int i = 0; i < 300; i++) {
            soup.calls(checks, i);
        }
        checks.end();
    }

    private String text() {
        StringBuilder all = new StringBuilder();
        int order = pick(7);
        for (int i = 0; i < 7; i++) {
            all.append(PIECES[(i + order) % 7]);
        }
        int changes = pick(4);
        for (int i = 0; i < changes; i++) {
            int at = all.indexOf(" ", pick(all.length())) + 1;
            int next = all.indexOf(" ", at) + 1;
            if (pick(2) == 0 && next > at) {
                all.delete(at, next);
            } else {
                all.insert(at, PIECES[pick(PIECES.length)]);
            }
        }
        return all.toString();
    }

    private int once(Checks checks, WeaveHouse house, int i) {
        house.wipe();
        String text = text();
        Checks.feed(house, text);
        int points = house.compile();
        checks.due("compile again of " + text, house.compile(), points);
        boolean fault = points < 0;
        checks.due("place of " + text, house.fault(0) >= 0 ? 1 : 0, fault ? 1 : 0);
        if (fault) {
            return 0;
        }
        WeaveHouse fresh = Checks.compiled(text);
        checks.due("what is told of " + text, all(house), all(fresh));
        String looking = done(house, false);
        checks.due("WOVEN of " + text, done(house, true), looking);
        checks.due("WOVEN at once of " + text, done(fresh, true), looking);
        return 1;
    }

    /** All that is told of what is compiled. */
    private static String all(WeaveHouse house) {
        StringBuilder all = new StringBuilder();
        for (int what = 0; what <= 6; what++) {
            all.append(house.count(what)).append(' ');
        }
        for (int i = 0; i < house.count(4); i++) {
            for (int what = 0; what <= 4; what++) {
                all.append(house.point(i, what)).append(' ');
            }
            for (int a = 0; a < house.count(3); a++) {
                all.append(house.meets(a, i, 0)).append('/').append(house.meets(a, i, 1)).append(' ');
            }
        }
        for (int k = 0; k < house.count(6); k++) {
            all.append(house.finding(k, 0)).append('@').append(house.finding(k, 2)).append('=').append(house.finding(k, 3)).append(' ');
        }
        return all.toString();
    }

    private String done(WeaveHouse house, boolean woven) {
        house.begin(woven);
        StringBuilder all = new StringBuilder();
        for (int i = 0; i < 60 && house.run(1 + pick(3)) == 1; i++) {
            continue;
        }
        for (int i = 0; i < 3 && house.run(2000) == 1; i++) {
            continue;
        }
        for (int what = 0; what <= 6 && house.told(5) != 1; what++) {
            all.append(what == 1 ? 0 : house.told(what)).append(' ');
        }
        return house.told(5) == 1 ? "" : all.append(Checks.output(house)).append(" / ").append(Checks.rows(house)).toString();
    }

    /** 512 calls of any kind with any arguments, twice. */
    private void calls(Checks checks, int i) {
        String text = text();
        long before = seed;
        List<String> first = any(text);
        seed = before;
        List<String> second = any(text);
        checks.due("the same answers in row " + i, first.equals(second) ? 1 : 0, 1);
        for (String answer : first) {
            checks.due("what comes out of " + answer, answer.contains("Machine") ? 1 : 0, 0);
        }
    }

    private List<String> any(String text) {
        WeaveHouse house = new WeaveHouse();
        Checks.feed(house, text);
        List<String> answers = new ArrayList<>();
        for (int k = 0; k < 300; k++) {
            int which = pick(40);
            int a = argument();
            int b = argument();
            int c = argument();
            answers.add(which + "(" + a + ", " + b + ", " + c + ") " + answer(house, which, a, b, c));
        }
        return answers;
    }

    private int argument() {
        int[] some = {-2147483648, -1, 0, 0, 0, 1, 1, 2, 3, 4, 5, 6, 7, 8, 20, 300, 2000, 5000, 2147483647};
        return some[pick(some.length)];
    }

    private String answer(WeaveHouse house, int which, int a, int b, int c) {
        try {
            return "" + called(house, which, a, b, c);
        } catch (IndexOutOfBoundsException | IllegalStateException | IllegalArgumentException e) {
            boolean own = e.getClass() != ArrayIndexOutOfBoundsException.class && e.getClass() != StringIndexOutOfBoundsException.class;
            return own ? e.getClass().getSimpleName() : "Machine " + e;
        } catch (RuntimeException e) {
            return "Machine " + e;
        }
    }

    private int called(WeaveHouse house, int which, int a, int b, int c) {
        switch (which) {
            case 0: return house.feed(a, 0x2020202020202020L + b);
            case 1: return pick(20) == 0 ? house.wipe() : 0;
            case 2:
            case 3:
            case 4: return house.compile();
            case 5: return house.fault(a);
            case 6: return house.count(a);
            case 7: return house.point(a, b);
            case 8: return house.meets(a, b, c);
            case 9: return house.finding(a, b);
            case 10: return house.ordered(a);
            case 11: return house.above(a);
            case 12:
            case 13:
            case 14:
            case 15: return house.begin(a > 1);
            case 16: return house.told(a);
            case 17: return house.output(a, b);
            case 18: return house.failure(a);
            case 19: return house.row(a, b);
            case 20: return house.object(a, b, c);
            case 21: return house.held(a, b, c, 0);
            case 22: return house.held(a, 0, b, c);
            default: return house.run(a);
        }
    }
}
