import java.nio.charset.StandardCharsets;

/** What all tests of the project share: texts are fed, answers are compared, and the wrong ones are printed. */
final class Checks {
    static final String NOTHING = "nothing";

    /** A call whose exception is looked at. */
    interface Call {
        int make();
    }

    private final String name;
    private int asked;
    private int wrong;

    Checks(String name) {
        this.name = name;
    }

    void due(String what, long got, long wanted) {
        asked++;
        if (got != wanted) {
            wrong++;
            System.out.println(name + ": " + shortened(what) + " answered " + got + ", due is " + wanted);
        }
    }

    void due(String what, String got, String wanted) {
        asked++;
        if (!got.equals(wanted)) {
            wrong++;
            System.out.println(name + ": " + shortened(what) + " answered [" + got + "], due is [" + wanted + "]");
        }
    }

    private static String shortened(String what) {
        return what.length() <= 400 ? what : what.substring(0, 200) + " .. " + what.substring(what.length() - 200);
    }

    /** The simple name of what a call throws has to be that one; NOTHING if it has to answer. */
    void dueThrow(String what, Call call, String wanted) {
        String got = NOTHING;
        try {
            call.make();
        } catch (RuntimeException e) {
            got = e.getClass().getSimpleName();
        }
        due(what + " throws", got, wanted);
    }

    /** A compile() that has to answer this; with a FAULT, its place is that of the mark ^ in the text. */
    void dueFault(String marked, int number) {
        int place = marked.indexOf('^');
        String text = place < 0 ? marked : marked.substring(0, place) + marked.substring(place + 1);
        WeaveHouse house = fed(text);
        due("compile of " + marked, house.compile(), -number);
        due("place in " + marked, house.fault(0), place);
        long line = text.substring(0, Math.max(0, place)).chars().filter(c -> c == '\n').count() + 1;
        due("LINE in " + marked, house.fault(1), line);
    }

    void dueSound(String text, int points) {
        WeaveHouse house = fed(text);
        due("compile of " + text, house.compile(), points);
        due("place in " + text, house.fault(0), WeaveHouse.NONE);
    }

    void end() {
        System.out.println(name + ": " + asked + " asked, " + wrong + " wrong");
        if (wrong != 0 || asked == 0) {
            System.exit(1);
        }
    }

    static WeaveHouse fed(String text) {
        WeaveHouse house = new WeaveHouse();
        feed(house, text);
        return house;
    }

    static void feed(WeaveHouse house, String text) {
        byte[] bytes = text.getBytes(StandardCharsets.ISO_8859_1);
        for (int i = 0; i < bytes.length; i += 8) {
            int n = Math.min(8, bytes.length - i);
            long packed = 0;
            for (int k = 0; k < n; k++) {
                packed |= (bytes[i + k] & 255L) << (8 * k);
            }
            house.feed(n, packed);
        }
    }

    /** A house whose text is compiled; the text has to be without a FAULT. */
    static WeaveHouse compiled(String text) {
        WeaveHouse house = fed(text);
        int points = house.compile();
        if (points < 0) {
            throw new IllegalStateException("FAULT " + points + " at " + house.fault(0) + " of " + text);
        }
        return house;
    }

    /** A house whose RUN has been done to its end. */
    static WeaveHouse done(String text, boolean woven) {
        WeaveHouse house = compiled(text);
        house.begin(woven);
        for (int i = 0; i < 100 && house.run(2000) == 1; i++) {
            continue;
        }
        return house;
    }

    /** A text n times, each # in it being how many went before. */
    static String times(int n, String text) {
        StringBuilder all = new StringBuilder();
        for (int i = 0; i < n; i++) {
            all.append(text.replace("#", "" + i));
        }
        return all.toString();
    }

    static String value(int kind, int itself) {
        return kind == 0 ? "none" : kind == 1 ? "" + itself : "#" + itself;
    }

    /** THE OUTPUT, and how the RUN stands behind it if it has FAILED or goes on. */
    static String output(WeaveHouse house) {
        StringBuilder all = new StringBuilder();
        for (int i = 0; i < Math.min(300, house.told(2)); i++) {
            all.append(i == 0 ? "" : " ").append(value(house.output(i, 0), house.output(i, 1)));
        }
        if (house.told(5) == 2) {
            all.append(" failed ").append(value(house.failure(0), house.failure(1)));
        }
        return all.append(house.told(5) == 1 ? " .." : "").toString().trim();
    }

    /** ROWS as advice@POINT. */
    static String rows(WeaveHouse house) {
        StringBuilder all = new StringBuilder();
        for (int i = 0; i < Math.min(300, house.told(3)); i++) {
            all.append(i == 0 ? "" : " ").append(house.row(i, 0)).append('@').append(house.row(i, 1));
        }
        return all.toString();
    }

    /** A text, LOOKING and WOVEN, has to print this. */
    void dueOutput(String text, String wanted) {
        WeaveHouse looking = done(text, false);
        WeaveHouse woven = done(text, true);
        due("looking: " + text, output(looking), wanted);
        due("woven: " + text, output(woven), wanted);
        due("ROWS woven: " + text, rows(woven), rows(looking));
        for (int what = 0; what <= 6; what++) {
            if (what != 1) {
                due("told(" + what + ") woven: " + text, woven.told(what), looking.told(what));
            }
        }
    }
}
