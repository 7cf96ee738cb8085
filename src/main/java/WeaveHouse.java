/**
 * A house for programs whose acts are picked and advised. THE TEXT is read by Tokens and Parser, judged by Judge,
 * weighed point by point by Ahead, and done by Machine. All rows are made once, here, and used again by each call.
 */
public final class WeaveHouse {
    public static final int NONE = -1;

    private static final int MOST_BYTES = 5000;
    private static final int MOST_TOKENS = 900;
    private static final int MOST_NESTED = 16;
    private static final int MOST_CLASSES = 12;
    private static final int MOST_ASPECTS = 8;
    private static final int MOST_FIELDS = 10;
    private static final int MOST_METHODS = 60;
    private static final int MOST_ADVICE = 24;
    private static final int MOST_PICKS = 24;
    private static final int MOST_BARS = 12;
    private static final int MOST_ARGS = 6;
    private static final int MOST_LOCALS = 10;
    private static final int MOST_POINTS = 400;
    private static final int MOST_OBJECTS = 200;
    private static final int MOST_BODIES = 40;
    private static final int MOST_KEPT = 300;
    private static final int MOST_STEPS = 2000;
    /** Ops of a TEXT: no TOKEN makes more than three. */
    private static final int MOST_OPS = 3 * MOST_TOKENS;
    /** A tree of picks has at most two levels for each that is NESTED, a pick's own tree hangs below. */
    private static final int DEEPEST = 80;

    // What a TOKEN is; the WORDS follow from FIRST_WORD on, in the order of WORDS.
    private static final int T_END = 0;
    private static final int T_BAD = 1;
    private static final int T_NAME = 2;
    private static final int T_WHOLE = 3;
    private static final int T_PATTERN = 4;
    private static final int T_BECOMES = 5;
    private static final int T_SAME = 6;
    private static final int T_UNLIKE = 7;
    private static final int T_LESS = 8;
    private static final int T_LESS_SAME = 9;
    private static final int T_MORE = 10;
    private static final int T_MORE_SAME = 11;
    private static final int T_PLUS = 12;
    private static final int T_MINUS = 13;
    private static final int T_STAR = 14;
    private static final int T_SLASH = 15;
    private static final int T_PERCENT = 16;
    private static final int T_LEFT = 17;
    private static final int T_RIGHT = 18;
    private static final int T_OPEN = 19;
    private static final int T_CLOSE = 20;
    private static final int T_SEMICOLON = 21;
    private static final int T_COMMA = 22;
    private static final int T_DOT = 23;
    /** What the parser sees behind a FAULT: nothing goes on with it. */
    private static final int T_STOP = 24;
    private static final int FIRST_WORD = 30;
    private static final int WORD_WIDTH = 7;
    private static final String WORDS = "and    args   around aspect bar    before behind call   catch  class  each   else   fail   field  flow   get    give   go     if     in     is     let    main   make   method new    none   not    object or     order  pick   print  return run    self   set    target throw  try    under  warn   while  within ";
    private static final int T_AND = 30;
    private static final int T_ARGS = 31;
    private static final int T_AROUND = 32;
    private static final int T_ASPECT = 33;
    private static final int T_BAR = 34;
    private static final int T_BEFORE = 35;
    private static final int T_BEHIND = 36;
    private static final int T_CALL = 37;
    private static final int T_CATCH = 38;
    private static final int T_CLASS = 39;
    private static final int T_EACH = 40;
    private static final int T_ELSE = 41;
    private static final int T_FAIL = 42;
    private static final int T_FIELD = 43;
    private static final int T_FLOW = 44;
    private static final int T_GET = 45;
    private static final int T_GIVE = 46;
    private static final int T_GO = 47;
    private static final int T_IF = 48;
    private static final int T_IN = 49;
    private static final int T_IS = 50;
    private static final int T_LET = 51;
    private static final int T_MAIN = 52;
    private static final int T_MAKE = 53;
    private static final int T_METHOD = 54;
    private static final int T_NEW = 55;
    private static final int T_NONE = 56;
    private static final int T_NOT = 57;
    private static final int T_OBJECT = 58;
    private static final int T_OR = 59;
    private static final int T_ORDER = 60;
    private static final int T_PICK = 61;
    private static final int T_PRINT = 62;
    private static final int T_RETURN = 63;
    private static final int T_RUN = 64;
    private static final int T_SELF = 65;
    private static final int T_SET = 66;
    private static final int T_TARGET = 67;
    private static final int T_THROW = 68;
    private static final int T_TRY = 69;
    private static final int T_UNDER = 70;
    private static final int T_WARN = 71;
    private static final int T_WHILE = 72;
    private static final int T_WITHIN = 73;

    // Kinds of POINTS.
    private static final int CALL = 0;
    private static final int RUN = 1;
    private static final int MAKE = 2;
    private static final int GET = 3;
    private static final int SET = 4;
    private static final int CATCH = 5;

    // Where a POINT stands, and what a body is.
    private static final int IN_MAIN = 0;
    private static final int IN_METHOD = 1;
    private static final int IN_ADVICE = 2;

    // Forms of advice.
    private static final int BEFORE = 0;
    private static final int BEHIND = 1;
    private static final int BEHIND_GIVE = 2;
    private static final int BEHIND_FAIL = 3;
    private static final int AROUND = 4;

    // Ops.
    private static final int OP_STEP = 0;
    private static final int OP_WHOLE = 1;
    private static final int OP_NONE = 2;
    private static final int OP_SELF = 3;
    private static final int OP_LOCAL = 4;
    private static final int OP_OWN = 5;
    private static final int OP_LOOSE = 6;
    private static final int OP_KEEP_LOCAL = 7;
    private static final int OP_KEEP_OWN = 8;
    private static final int OP_KEEP_LOOSE = 9;
    private static final int OP_SIGN = 10;
    private static final int OP_NOT = 11;
    private static final int OP_MINUS = 12;
    private static final int OP_AND = 13;
    private static final int OP_OR = 14;
    private static final int OP_TRUTH = 15;
    private static final int OP_IS = 16;
    private static final int OP_REACH = 17;
    private static final int OP_GO = 18;
    private static final int OP_POP = 19;
    private static final int OP_JUMP = 20;
    private static final int OP_UNLESS = 21;
    private static final int OP_RETURN = 22;
    private static final int OP_THROW = 23;
    private static final int OP_PRINT = 24;
    private static final int OP_END = 25;

    // Columns.
    private static final int NAME_START = 0;
    private static final int NAME_LENGTH = 1;
    // The length of a PART stands right behind its place.
    private static final int PATTERN_FIRST = 0;
    private static final int PATTERN_FIRST_LENGTH = 1;
    private static final int PATTERN_SECOND = 2;
    private static final int PATTERN_SECOND_LENGTH = 3;
    private static final int PATTERN_PLUS = 4;
    private static final int CLASS_NAME = 0;
    private static final int CLASS_PLACE = 1;
    private static final int CLASS_UNDER = 2;
    private static final int CLASS_UNDER_PLACE = 3;
    private static final int CLASS_ABOVE = 4;
    private static final int CLASS_ABOVES = 5;
    private static final int CLASS_BELOWS = 6;
    private static final int CLASS_FIELDS = 7;
    private static final int CLASS_OFFSET = 8;
    private static final int MEMBER_OWNER = 0;
    private static final int MEMBER_NAME = 1;
    private static final int MEMBER_PLACE = 2;
    private static final int MEMBER_CLASS = 3;
    private static final int FIELD_SLOT = 4;
    private static final int METHOD_PARAMS = 4;
    private static final int METHOD_POINT = 5;
    private static final int METHOD_START = 6;
    private static final int ASPECT_NAME = 0;
    private static final int ASPECT_PLACE = 1;
    private static final int ASPECT_EACH = 2;
    private static final int ASPECT_FIELDS = 3;
    private static final int ASPECT_RANK = 4;
    private static final int OWN_ASPECT = 0;
    private static final int OWN_NAME = 1;
    private static final int OWN_PLACE = 2;
    private static final int OWN_INDEX = 3;
    private static final int ADVICE_ASPECT = 0;
    private static final int ADVICE_PLACE = 1;
    private static final int ADVICE_FORM = 2;
    private static final int ADVICE_REQUIRED = 3;
    private static final int ADVICE_GIVEN = 4;
    private static final int ADVICE_ROOT = 5;
    private static final int ADVICE_START = 6;
    private static final int PICK_ASPECT = 0;
    private static final int PICK_NAME = 1;
    private static final int PICK_PLACE = 2;
    private static final int PICK_PARAMS = 3;
    private static final int PICK_REQUIRED = 4;
    private static final int PICK_ROOT = 5;
    private static final int BAR_PLACE = 0;
    private static final int BAR_WARNS = 1;
    private static final int BAR_ROOT = 2;
    private static final int POINT_KIND = 0;
    private static final int POINT_PLACE = 1;
    private static final int POINT_ARGS = 2;
    private static final int POINT_WHERE = 3;
    private static final int POINT_WHICH = 4;
    private static final int POINT_NAME = 5;
    private static final int POINT_CLASS = 6;
    private static final int CODE_OP = 0;
    private static final int CODE_A = 1;
    private static final int CODE_B = 2;
    private static final int CODE_PLACE = 3;
    private static final int NODE_KIND = 0;
    private static final int NODE_PLACE = 1;
    private static final int NODE_FIRST = 2;
    private static final int NODE_NEXT = 3;
    private static final int NODE_A = 4;
    private static final int NODE_B = 5;
    private static final int NODE_C = 6;
    private static final int NODE_MASK = 7;
    private static final int NODE_ASPECT = 8;
    private static final int NODE_HOME = 9;
    private static final int LIST_NAME = 0;
    private static final int LIST_PLACE = 1;
    private static final int LIST_SLOT = 2;
    private static final int LIST_CLASS = 3;
    private static final int USE_NAME = 0;
    private static final int USE_PLACE = 1;
    private static final int UNDER_CLASS = 0;
    private static final int UNDER_ABOVE = 1;
    private static final int UNDER_PLACE = 2;
    private static final int TRY_FROM = 0;
    private static final int TRY_TO = 1;
    private static final int TRY_CATCH = 2;

    private final Tokens tokens;
    private final Faults faults;
    private final Program program;
    private final Parser parser;
    private final Judge judge;
    private final Ahead ahead;
    private final Store store;
    private final Machine machine;
    private boolean compiled;
    private boolean begun;
    private int faultPlace;
    private int faultLine;

    public WeaveHouse() {
        tokens = new Tokens();
        faults = new Faults();
        program = new Program();
        parser = new Parser(tokens, faults, program);
        judge = new Judge(faults, program);
        ahead = new Ahead(tokens, faults, program);
        store = new Store(program);
        machine = new Machine(program, store, new Holder(program, ahead, store));
        faultPlace = NONE;
        faultLine = NONE;
    }

    public int feed(int n, long bytes) throws IllegalArgumentException {
        if (n < 1 || n > 8 || tokens.length() + n > MOST_BYTES) {
            throw new IllegalArgumentException("n");
        }
        tokens.append(n, bytes);
        compiled = false;
        begun = false;
        return tokens.length();
    }

    public int wipe() {
        int had = tokens.length();
        tokens.empty();
        compiled = false;
        begun = false;
        return had;
    }

    public int compile() {
        compiled = false;
        begun = false;
        faults.clear();
        program.clear();
        parser.read();
        if (!faults.early()) {
            judge.judgeAll();
        }
        if (faults.number() == 0) {
            ahead.weigh();
        }
        if (faults.number() != 0) {
            faultPlace = faults.place();
            faultLine = tokens.line(faultPlace);
            return -faults.number();
        }
        faultPlace = NONE;
        faultLine = NONE;
        compiled = true;
        return program.points.size();
    }

    public int fault(int what) throws IndexOutOfBoundsException {
        if (what < 0 || what > 1) {
            throw new IndexOutOfBoundsException("what");
        }
        return what == 0 ? faultPlace : faultLine;
    }

    public int count(int what) throws IndexOutOfBoundsException {
        if (what < 0 || what > 6) {
            throw new IndexOutOfBoundsException("what");
        }
        if (!compiled) {
            return 0;
        }
        switch (what) {
            case 0: return program.classes.size();
            case 1: return program.methods.size();
            case 2: return program.aspects.size();
            case 3: return program.advice.size();
            case 4: return program.points.size();
            case 5: return program.picks.size();
            default: return ahead.findings.size();
        }
    }

    public int point(int i, int what) throws IndexOutOfBoundsException {
        if (!compiled || i < 0 || i >= program.points.size() || what < 0 || what > 4) {
            throw new IndexOutOfBoundsException("point");
        }
        return program.points.at(i, what);
    }

    public int meets(int advice, int i, int what) throws IndexOutOfBoundsException {
        if (!compiled || advice < 0 || advice >= program.advice.size() || i < 0 || i >= program.points.size()
                || what < 0 || what > 1) {
            throw new IndexOutOfBoundsException("meets");
        }
        int root = program.advice.at(advice, ADVICE_ROOT);
        return what == 0 ? ahead.known(root, i) : ahead.left(root, i);
    }

    public int finding(int k, int what) throws IndexOutOfBoundsException {
        if (!compiled || k < 0 || k >= ahead.findings.size() || what < 0 || what > 3) {
            throw new IndexOutOfBoundsException("finding");
        }
        return ahead.ofFinding(k, what);
    }

    public int ordered(int k) throws IndexOutOfBoundsException {
        if (!compiled || k < 0 || k >= program.order.size()) {
            throw new IndexOutOfBoundsException("k");
        }
        return program.order.at(k, 0);
    }

    public int above(int k) throws IndexOutOfBoundsException {
        if (!compiled || k < 0 || k >= program.classes.size()) {
            throw new IndexOutOfBoundsException("k");
        }
        return program.classes.at(k, CLASS_ABOVE);
    }

    public int begin(boolean woven) throws IllegalStateException {
        if (!compiled) {
            throw new IllegalStateException("nothing is compiled");
        }
        begun = true;
        return machine.start(woven);
    }

    public int run(int n) throws IllegalStateException, IllegalArgumentException {
        if (!begun) {
            throw new IllegalStateException("no RUN");
        }
        if (n < 1 || n > MOST_STEPS) {
            throw new IllegalArgumentException("n");
        }
        return machine.work(n);
    }

    public int told(int what) throws IllegalStateException, IndexOutOfBoundsException {
        if (!begun) {
            throw new IllegalStateException("no RUN");
        }
        if (what < 0 || what > 6) {
            throw new IndexOutOfBoundsException("what");
        }
        switch (what) {
            case 0: return machine.steps();
            case 1: return store.tests();
            case 2: return store.printed();
            case 3: return store.rowsMade();
            case 4: return store.objects();
            case 5: return machine.standing();
            default: return machine.entered();
        }
    }

    public int output(int i, int what) throws IllegalStateException, IndexOutOfBoundsException {
        if (!begun) {
            throw new IllegalStateException("no RUN");
        }
        if (i < 0 || i >= MOST_KEPT || i >= store.printed() || what < 0 || what > 1) {
            throw new IndexOutOfBoundsException("output");
        }
        return Values.shown(store.printedAt(i), what);
    }

    public int failure(int what) throws IllegalStateException, IndexOutOfBoundsException {
        if (!begun) {
            throw new IllegalStateException("no RUN");
        }
        if (what < 0 || what > 1) {
            throw new IndexOutOfBoundsException("what");
        }
        return Values.shown(machine.failedWith(), what);
    }

    public int row(int i, int what) throws IllegalStateException, IndexOutOfBoundsException {
        if (!begun) {
            throw new IllegalStateException("no RUN");
        }
        if (i < 0 || i >= MOST_KEPT || i >= store.rowsMade() || what < 0 || what > 1) {
            throw new IndexOutOfBoundsException("row");
        }
        return store.rowAt(i, what);
    }

    public int object(int o, int i, int what) throws IllegalStateException, IndexOutOfBoundsException {
        if (!begun) {
            throw new IllegalStateException("no RUN");
        }
        if (o < 1 || o > store.objects() || i < NONE || what < 0 || what > 1) {
            throw new IndexOutOfBoundsException("object");
        }
        int type = store.typeOf(o);
        if (i == NONE ? what != 0 : i >= program.fieldsOf(type)) {
            throw new IndexOutOfBoundsException("field");
        }
        return i == NONE ? type : Values.shown(store.field(o, i), what);
    }

    public int held(int aspect, int o, int i, int what) throws IllegalStateException, IndexOutOfBoundsException {
        if (!begun) {
            throw new IllegalStateException("no RUN");
        }
        if (aspect < 0 || aspect >= program.aspects.size() || o < 0 || o > store.objects() || what < 0 || what > 1) {
            throw new IndexOutOfBoundsException("held");
        }
        boolean each = program.aspects.at(aspect, ASPECT_EACH) == 1;
        if (each != (o > 0) || i < 0 || i >= program.aspects.at(aspect, ASPECT_FIELDS)) {
            throw new IndexOutOfBoundsException("field");
        }
        return Values.shown(store.own(aspect, o, i), what);
    }

    /** Rows of ints, all of one width. What lies outside reads as NONE and can't be written. */
    private static final class Table {
        private final int[] cells;
        private final int width;
        private int rows;

        Table(int most, int width) {
            this.width = width > 0 ? width : 1;
            this.cells = new int[most > 0 ? most * this.width : 0];
        }

        int size() {
            return rows;
        }

        int at(int line, int column) {
            if (line < 0 || line >= rows || column < 0 || column >= width) {
                return NONE;
            }
            int i = line * width + column;
            return i >= 0 && i < cells.length ? cells[i] : NONE;
        }

        void put(int line, int column, int value) {
            if (line < 0 || line >= rows || column < 0 || column >= width) {
                return;
            }
            int i = line * width + column;
            if (i >= 0 && i < cells.length) {
                cells[i] = value;
            }
        }

        /** A new row of NONE behind the others: which; NONE if there is no room. */
        int add() {
            int from = rows * width;
            if (from < 0 || from + width > cells.length) {
                return NONE;
            }
            for (int i = from; i < from + width; i++) {
                cells[i] = NONE;
            }
            rows++;
            return rows - 1;
        }

        void cut(int size) {
            if (size >= 0 && size < rows) {
                rows = size;
            }
        }
    }

    /** A row of values, each a long: its kind above, itself (or the number of the OBJECT) in the 32 bits below. */
    private static final class Values {
        static final int KIND_WHOLE = 1;
        static final int KIND_OBJECT = 2;
        static final long NOTHING = 0L;
        static final long NO = 1L << 32;
        static final long YES = NO + 1;

        private final long[] cells;

        Values(int size) {
            cells = new long[size > 0 ? size : 0];
        }

        long at(int i) {
            return i >= 0 && i < cells.length ? cells[i] : NOTHING;
        }

        void put(int i, long value) {
            if (i >= 0 && i < cells.length) {
                cells[i] = value;
            }
        }

        static long whole(int n) {
            return NO | (n & 0xffffffffL);
        }

        static long thing(int number) {
            return ((long) KIND_OBJECT << 32) | (number & 0xffffffffL);
        }

        static boolean isWhole(long value) {
            return value >>> 32 == KIND_WHOLE;
        }

        /** The number of the OBJECT; 0 if it is none. */
        static int number(long value) {
            return value >>> 32 == KIND_OBJECT ? (int) value : 0;
        }

        static boolean isTrue(long value) {
            return value != NOTHING && value != NO;
        }

        static int shown(long value, int what) {
            return what == 0 ? (int) (value >>> 32) : (int) value;
        }
    }

    /** The FAULT that counts so far. */
    private static final class Faults {
        private int number;
        private int place;

        void clear() {
            number = 0;
            place = NONE;
        }

        int number() {
            return number;
        }

        int place() {
            return place;
        }

        /** One of 1 to 3, beside which no other counts. */
        boolean early() {
            return number >= 1 && number <= 3;
        }

        void note(int which, int where) {
            boolean soon = which <= 3;
            boolean counts;
            if (number == 0) {
                counts = true;
            } else if (soon != early()) {
                counts = soon;
            } else {
                counts = where < place || where == place && which < number;
            }
            if (counts) {
                number = which;
                place = where;
            }
        }
    }

    /** THE TEXT and its TOKENS. */
    private static final class Tokens {
        /** Names that the language itself means stand behind THE TEXT, so that all names are matched alike. */
        static final int MAIN_NAME = 0;
        static final int ADVICE_NAME = 1;
        static final int INIT_NAME = 2;
        private static final byte[] OUR_NAMES = {'m', 'a', 'i', 'n', 'a', 'd', 'v', 'i', 'c', 'e', 'i', 'n', 'i', 't'};

        private final byte[] bytes = new byte[MOST_BYTES + 14];
        private final int[] kinds = new int[MOST_TOKENS + 2];
        private final int[] places = new int[MOST_TOKENS + 2];
        private final int[] values = new int[MOST_TOKENS + 2];
        private final Table names = new Table(MOST_TOKENS + 4, 2);
        private final Table patterns = new Table(MOST_TOKENS + 2, 5);
        private int length;
        private int made;

        Tokens() {
            System.arraycopy(OUR_NAMES, 0, bytes, MOST_BYTES, 14);
        }

        int length() {
            return length;
        }

        void empty() {
            length = 0;
        }

        void append(int n, long packed) {
            for (int i = 0; i < n && i < 8 && length < MOST_BYTES; i++) {
                bytes[length] = (byte) (packed >>> (8 * i));
                length++;
            }
        }

        int line(int place) {
            int line = 1;
            for (int i = 0; i < place && i < length; i++) {
                if (bytes[i] == 10) {
                    line++;
                }
            }
            return line;
        }

        /** Makes the TOKENS, up to the first that is none, or one more than there may be. */
        void scan() {
            made = 0;
            patterns.cut(0);
            names.cut(0);
            addName(MOST_BYTES, 4);
            addName(MOST_BYTES + 4, 6);
            addName(MOST_BYTES + 10, 4);
            int at = behindBlanks(0);
            for (int i = 0; i <= MOST_TOKENS && at < length; i++) {
                int end = scanOne(at);
                if (end <= at) {
                    addToken(T_BAD, at, 0);
                    return;
                }
                at = behindBlanks(end);
            }
            addToken(T_END, length, 0);
        }

        int ofPattern(int pattern, int what) {
            return patterns.at(pattern, what);
        }

        /** Whether the PART of a PATTERN matches a NAME. */
        boolean matches(int part, int size, int name) {
            int start = names.at(name, NAME_START);
            int most = names.at(name, NAME_LENGTH);
            int p = 0;
            int s = 0;
            int star = NONE;
            int retry = 0;
            for (int i = 0; i < 1000 && s < most; i++) {
                int wanted = p < size ? byteAt(part + p) : NONE;
                if (wanted == '*') {
                    star = p;
                    retry = s;
                    p++;
                } else if (wanted == byteAt(start + s)) {
                    p++;
                    s++;
                } else if (star >= 0) {
                    p = star + 1;
                    retry++;
                    s = retry;
                } else {
                    return false;
                }
            }
            for (int i = 0; i < size && p < size && byteAt(part + p) == '*'; i++) {
                p++;
            }
            return p >= size;
        }

        private int byteAt(int i) {
            return i >= 0 && i < bytes.length ? bytes[i] & 255 : NONE;
        }

        private int textAt(int i) {
            return i >= 0 && i < length && i < bytes.length ? bytes[i] & 255 : NONE;
        }

        private static boolean isDigit(int c) {
            return c >= '0' && c <= '9';
        }

        private static boolean isLetter(int c) {
            return c >= 'a' && c <= 'z' || c >= 'A' && c <= 'Z';
        }

        private int behindBlanks(int from) {
            int at = from;
            boolean remark = false;
            for (int i = 0; i <= MOST_BYTES && at < length; i++) {
                int c = textAt(at);
                if (remark) {
                    remark = c != 10;
                } else if (c == '/' && textAt(at + 1) == '/') {
                    remark = true;
                } else if (c != 32 && c != 9 && c != 13 && c != 10) {
                    return at;
                }
                at++;
            }
            return at;
        }

        /** Adds the TOKEN that begins here: where it ends; not behind its beginning if it is none. */
        private int scanOne(int at) {
            int c = textAt(at);
            if (isLetter(c)) {
                return scanLetters(at);
            }
            if (isDigit(c)) {
                return scanDigits(at);
            }
            return c == '"' ? scanPattern(at) : scanSign(at, c);
        }

        private int behindRun(int from, boolean stars) {
            int at = from;
            for (int i = 0; i <= MOST_BYTES; i++) {
                int c = textAt(at);
                if (!isLetter(c) && !isDigit(c) && !(stars && c == '*')) {
                    return at;
                }
                at++;
            }
            return at;
        }

        private int scanLetters(int at) {
            int end = behindRun(at, false);
            int size = end - at;
            int kind = wordKind(at, size);
            if (kind == T_NAME && size > 12) {
                return at;
            }
            addToken(kind, at, kind == T_NAME ? nameOf(at, size) : 0);
            return end;
        }

        private int wordKind(int at, int size) {
            for (int w = 0; size < WORD_WIDTH && (w + 1) * WORD_WIDTH <= WORDS.length(); w++) {
                boolean same = true;
                for (int k = 0; k < WORD_WIDTH && same; k++) {
                    same = WORDS.charAt(w * WORD_WIDTH + k) == (k < size ? textAt(at + k) : ' ');
                }
                if (same) {
                    return FIRST_WORD + w;
                }
            }
            return T_NAME;
        }

        private int nameOf(int at, int size) {
            for (int n = 0; n < names.size(); n++) {
                boolean same = names.at(n, NAME_LENGTH) == size;
                int start = names.at(n, NAME_START);
                for (int k = 0; k < size && same; k++) {
                    same = byteAt(start + k) == byteAt(at + k);
                }
                if (same) {
                    return n;
                }
            }
            return addName(at, size);
        }

        private int addName(int start, int size) {
            int n = names.add();
            names.put(n, NAME_START, start);
            names.put(n, NAME_LENGTH, size);
            return n;
        }

        private int scanDigits(int at) {
            int end = behindRun(at, false);
            int value = 0;
            for (int i = at; i < end; i++) {
                int c = textAt(i);
                if (!isDigit(c) || end - at > 9) {
                    return at;
                }
                value = value * 10 + (c - '0');
            }
            addToken(T_WHOLE, at, value);
            return end;
        }

        private int scanPattern(int at) {
            int first = at + 1;
            int firstEnd = behindRun(first, true);
            int plus = textAt(firstEnd) == '+' ? 1 : 0;
            int end = firstEnd + plus;
            int second = end;
            if (textAt(end) == '.') {
                second = end + 1;
                end = behindRun(second, true);
                if (end == second) {
                    return at;
                }
            }
            if (firstEnd == first || firstEnd - first > 12 || end - second > 12 || textAt(end) != '"') {
                return at;
            }
            int p = patterns.add();
            patterns.put(p, PATTERN_FIRST, first);
            patterns.put(p, PATTERN_FIRST_LENGTH, firstEnd - first);
            patterns.put(p, PATTERN_PLUS, plus);
            patterns.put(p, PATTERN_SECOND, second);
            patterns.put(p, PATTERN_SECOND_LENGTH, end - second);
            addToken(T_PATTERN, at, p);
            return end + 1;
        }

        private int scanSign(int at, int c) {
            boolean longer = textAt(at + 1) == '=';
            int kind = signKind(c, longer);
            if (kind == T_BAD) {
                return at;
            }
            addToken(kind, at, 0);
            boolean two = kind == T_SAME || kind == T_UNLIKE || kind == T_LESS_SAME || kind == T_MORE_SAME;
            return two ? at + 2 : at + 1;
        }

        private static int signKind(int c, boolean longer) {
            switch (c) {
                case '=': return longer ? T_SAME : T_BECOMES;
                case '!': return longer ? T_UNLIKE : T_BAD;
                case '<': return longer ? T_LESS_SAME : T_LESS;
                case '>': return longer ? T_MORE_SAME : T_MORE;
                case '+': return T_PLUS;
                case '-': return T_MINUS;
                case '*': return T_STAR;
                case '/': return T_SLASH;
                case '%': return T_PERCENT;
                case '(': return T_LEFT;
                case ')': return T_RIGHT;
                case '{': return T_OPEN;
                case '}': return T_CLOSE;
                case ';': return T_SEMICOLON;
                case ',': return T_COMMA;
                case '.': return T_DOT;
                default: return T_BAD;
            }
        }

        private void addToken(int kind, int place, int value) {
            if (made < kinds.length && made < places.length && made < values.length) {
                kinds[made] = kind;
                places[made] = place;
                values[made] = value;
                made++;
            }
        }
    }

    /** What THE TEXT tells, row by row as it stands there. */
    private static final class Program {
        private final Table classes = new Table(MOST_CLASSES, 9);
        private final Table fields = new Table(MOST_TOKENS / 3, 5);
        private final Table methods = new Table(MOST_METHODS, 7);
        private final Table aspects = new Table(MOST_ASPECTS, 5);
        private final Table owns = new Table(MOST_ASPECTS * MOST_FIELDS, 4);
        private final Table advice = new Table(MOST_ADVICE, 7);
        private final Table picks = new Table(MOST_PICKS, 6);
        private final Table bars = new Table(MOST_BARS, 3);
        private final Table points = new Table(MOST_POINTS, 7);
        private final Table code = new Table(MOST_OPS, 4);
        private final Table tries = new Table(MOST_TOKENS / 7, 3);
        private final Table nodes = new Table(MOST_TOKENS + 4, 10);
        private final Table lists = new Table(MOST_TOKENS, 4);
        private final Table uses = new Table(MOST_TOKENS, 2);
        private final Table unders = new Table(MOST_TOKENS / 5, 3);
        private final Table orders = new Table(MOST_TOKENS, 2);
        private final Table order = new Table(MOST_ADVICE, 1);
        private int mainStart;

        void clear() {
            classes.cut(0);
            fields.cut(0);
            methods.cut(0);
            aspects.cut(0);
            owns.cut(0);
            advice.cut(0);
            picks.cut(0);
            bars.cut(0);
            points.cut(0);
            code.cut(0);
            tries.cut(0);
            nodes.cut(0);
            lists.cut(0);
            uses.cut(0);
            unders.cut(0);
            orders.cut(0);
            order.cut(0);
            mainStart = NONE;
        }

        /** The class of that NAME, the first if there are more. */
        int classOf(int name) {
            return firstWith(classes, CLASS_NAME, name);
        }

        int aspectOf(int name) {
            return firstWith(aspects, ASPECT_NAME, name);
        }

        static int firstWith(Table table, int column, int value) {
            for (int i = 0; i < table.size(); i++) {
                if (table.at(i, column) == value) {
                    return i;
                }
            }
            return NONE;
        }

        /** Whether a class is another one, or below it. */
        boolean isUnder(int type, int other) {
            return type >= 0 && other >= 0 && (classes.at(type, CLASS_ABOVES) >> other & 1) == 1;
        }

        int fieldsOf(int type) {
            return classes.at(type, CLASS_OFFSET) + classes.at(type, CLASS_FIELDS);
        }

        /** The row of fields, or methods, in which the class, or the nearest above, has one of that NAME. */
        int nearest(Table members, int type, int name) {
            int c = type;
            for (int i = 0; i < MOST_CLASSES && c >= 0; i++) {
                for (int m = 0; m < members.size(); m++) {
                    if (members.at(m, MEMBER_CLASS) == c && members.at(m, MEMBER_NAME) == name) {
                        return m;
                    }
                }
                c = classes.at(c, CLASS_ABOVE);
            }
            return NONE;
        }

        /** The class in which a POINT stands. */
        int homeOf(int point) {
            boolean within = points.at(point, POINT_WHERE) == IN_METHOD;
            return within ? methods.at(points.at(point, POINT_WHICH), MEMBER_CLASS) : NONE;
        }
    }

    /**
     * Reads the TOKENS by the grammar, from the left to the right, and writes the Program. The first FAULT of 1 to 3
     * stops it: then no TOKEN fits any more. Of the later FAULTS it notes those that need nothing told behind them.
     */
    private static final class Parser {
        // What an E is as a whole, as far as the S needs it.
        private static final int OTHER = 0;
        private static final int ALONE = 1;
        private static final int FIELD = 2;
        private static final int ACT = 3;

        // What a P may have in it.
        private static final int ANY = 0;
        private static final int NO_PICKS = 1;
        private static final int NO_FLOWS = 2;

        // What the ITEMS, MEMBERS and PARTS that stand next stand in.
        private static final int TOP = 0;
        private static final int CLASS = 1;
        private static final int ASPECT = 2;
        private static final int IN = 3;

        private final Tokens tokens;
        private final Faults faults;
        private final Program program;
        /** The LOCALS that are known here: name, slot. */
        private final Table known = new Table(MOST_LOCALS, 2);
        private int next;
        private int kind;
        private int place;
        private int value;
        private boolean stopped;
        private int number;
        private int spot;
        private int slots;
        private int where;
        private int which;
        private int aspect;
        private int home;
        private boolean around;
        private boolean bare;
        private int shape;
        private int inside;
        private int owner;

        Parser(Tokens tokens, Faults faults, Program program) {
            this.tokens = tokens;
            this.faults = faults;
            this.program = program;
        }

        /** One loop over what stands in the TEXT and in { } of its ITEMS, so that the calls stay flat. */
        void read() {
            tokens.scan();
            stopped = false;
            bare = false;
            inside = TOP;
            next = NONE;
            take();
            for (int i = 0; i <= MOST_TOKENS && !stopped && (kind != T_END || inside != TOP); i++) {
                if (!fitsInside()) {
                    refuse(2);
                }
                boolean once = inside == IN;
                switch (kind) {
                    case T_CLASS: classHead(); break;
                    case T_MAIN: mainItem(); break;
                    case T_ASPECT: aspectHead(); break;
                    case T_ORDER: orderItem(); break;
                    case T_FIELD: field(); break;
                    case T_METHOD: method(); break;
                    case T_IN: inHead(); break;
                    case T_UNDER: underPart(); break;
                    case T_PICK: pickPart(); break;
                    case T_BEFORE:
                    case T_BEHIND:
                    case T_AROUND: advicePart(); break;
                    case T_BAR:
                    case T_WARN: barPart(); break;
                    case T_CLOSE:
                        take();
                        inside = TOP;
                        break;
                    default: break;
                }
                if (once) {
                    inside = ASPECT;
                }
            }
            if (stopped) {
                faults.note(number, spot);
            }
        }

        private boolean fitsInside() {
            boolean member = kind == T_FIELD || kind == T_METHOD;
            switch (inside) {
                case TOP: return kind == T_CLASS || kind == T_MAIN || kind == T_ASPECT || kind == T_ORDER;
                case CLASS: return member || kind == T_CLOSE;
                case ASPECT: return kind == T_FIELD || kind == T_IN || kind == T_PICK || kind == T_BEFORE
                        || kind == T_BEHIND || kind == T_AROUND || kind == T_BAR || kind == T_WARN || kind == T_CLOSE;
                default: return member || kind == T_UNDER;
            }
        }

        // ---- the TOKEN that stands next

        private void refuse(int fault) {
            if (!stopped) {
                stopped = true;
                number = fault == 2 && kind == T_BAD ? 1 : fault;
                spot = place;
                kind = T_STOP;
            }
        }

        private void take() {
            if (stopped) {
                return;
            }
            if (next >= MOST_TOKENS) {
                refuse(3);
                return;
            }
            next++;
            boolean there = next >= 0 && next < tokens.kinds.length && next < tokens.places.length
                    && next < tokens.values.length;
            kind = there ? tokens.kinds[next] : T_STOP;
            place = there ? tokens.places[next] : NONE;
            value = there ? tokens.values[next] : NONE;
        }

        private void need(int wanted) {
            if (kind == wanted) {
                take();
            } else {
                refuse(2);
            }
        }

        /** A NAME, if there is room for what has it. */
        private int nameFor(boolean room) {
            int name = NONE;
            if (kind != T_NAME) {
                refuse(2);
            } else if (!room) {
                refuse(3);
            } else {
                name = value;
                take();
            }
            return name;
        }

        /** A NAME that has to mean a class. */
        private int className() {
            int name = NONE;
            if (kind == T_NAME) {
                name = value;
                useClass(name, place);
                take();
            } else {
                refuse(2);
            }
            return name;
        }

        private void useClass(int name, int at) {
            int u = program.uses.add();
            program.uses.put(u, USE_NAME, name);
            program.uses.put(u, USE_PLACE, at);
        }

        // ---- what is written

        private int emit(int op, int a) {
            int i = program.code.add();
            program.code.put(i, CODE_OP, op);
            program.code.put(i, CODE_A, a);
            return i;
        }

        /** A jump that was left open leads to what is written next. */
        private void land(int jump) {
            program.code.put(jump, CODE_A, program.code.size());
        }

        private int newPoint(int what, int args) {
            if (program.points.size() >= MOST_POINTS) {
                refuse(3);
                return NONE;
            }
            int p = program.points.add();
            program.points.put(p, POINT_KIND, what);
            program.points.put(p, POINT_PLACE, place);
            program.points.put(p, POINT_ARGS, args);
            program.points.put(p, POINT_WHERE, where);
            program.points.put(p, POINT_WHICH, which);
            return p;
        }

        private int newNode(int what, int at, int first) {
            int n = program.nodes.add();
            program.nodes.put(n, NODE_KIND, what);
            program.nodes.put(n, NODE_PLACE, at);
            program.nodes.put(n, NODE_FIRST, first);
            program.nodes.put(n, NODE_ASPECT, aspect);
            program.nodes.put(n, NODE_HOME, home);
            return n;
        }

        // ---- LOCALS

        private void enter(int into, int number, int ofAspect) {
            where = into;
            which = number;
            aspect = ofAspect;
            around = false;
            home = NONE;
            slots = 0;
            known.cut(0);
        }

        private int slotOf(int name) {
            for (int i = 0; i < known.size(); i++) {
                if (known.at(i, 0) == name) {
                    return known.at(i, 1);
                }
            }
            return NONE;
        }

        /** A new LOCAL is known from here on: its slot. */
        private int declare(int name, int at) {
            int slot = slots;
            slots++;
            if (slotOf(name) >= 0) {
                faults.note(4, at);
            } else {
                int row = known.add();
                known.put(row, 0, name);
                known.put(row, 1, slot);
            }
            return slot;
        }

        private void parameter() {
            int at = place;
            int name = nameFor(slots < MOST_ARGS);
            declare(name, at);
        }

        private void parameters() {
            need(T_LEFT);
            if (kind == T_NAME) {
                parameter();
                for (int i = 0; i <= MOST_TOKENS && kind == T_COMMA; i++) {
                    take();
                    parameter();
                }
            }
            need(T_RIGHT);
        }

        /** The slots of all parameters so far, a bit each; one that is told twice has but one. */
        private int slotBits() {
            int bits = 0;
            for (int i = 0; i < known.size(); i++) {
                bits |= 1 << known.at(i, 1);
            }
            return bits;
        }

        // ---- ITEMS

        private void classHead() {
            take();
            int at = place;
            int name = nameFor(program.classes.size() < MOST_CLASSES);
            int c = stopped ? NONE : program.classes.add();
            program.classes.put(c, CLASS_NAME, name);
            program.classes.put(c, CLASS_PLACE, at);
            if (kind == T_UNDER) {
                take();
                program.classes.put(c, CLASS_UNDER_PLACE, place);
                program.classes.put(c, CLASS_UNDER, className());
            }
            need(T_OPEN);
            inside = CLASS;
            owner = name;
        }

        private void aspectHead() {
            take();
            int at = place;
            int name = nameFor(program.aspects.size() < MOST_ASPECTS);
            int a = stopped ? NONE : program.aspects.add();
            program.aspects.put(a, ASPECT_NAME, name);
            program.aspects.put(a, ASPECT_PLACE, at);
            program.aspects.put(a, ASPECT_EACH, 0);
            program.aspects.put(a, ASPECT_FIELDS, 0);
            if (kind == T_EACH) {
                take();
                need(T_OBJECT);
                program.aspects.put(a, ASPECT_EACH, 1);
            }
            need(T_OPEN);
            inside = ASPECT;
        }

        private void inHead() {
            take();
            owner = className();
            inside = IN;
        }

        private void underPart() {
            take();
            int u = program.unders.add();
            program.unders.put(u, UNDER_CLASS, owner);
            program.unders.put(u, UNDER_PLACE, place);
            program.unders.put(u, UNDER_ABOVE, className());
            need(T_SEMICOLON);
        }

        private void field() {
            take();
            if (inside == ASPECT) {
                ownField(program.aspects.size() - 1);
            } else {
                classField();
            }
            need(T_SEMICOLON);
        }

        private void ownField(int a) {
            int told = program.aspects.at(a, ASPECT_FIELDS);
            int at = place;
            int name = nameFor(told < MOST_FIELDS);
            int f = stopped ? NONE : program.owns.add();
            program.owns.put(f, OWN_ASPECT, a);
            program.owns.put(f, OWN_NAME, name);
            program.owns.put(f, OWN_PLACE, at);
            program.owns.put(f, OWN_INDEX, told);
            program.aspects.put(a, ASPECT_FIELDS, told + 1);
        }

        private void classField() {
            int told = 0;
            for (int i = 0; i < program.fields.size(); i++) {
                told += program.fields.at(i, MEMBER_OWNER) == owner ? 1 : 0;
            }
            int at = place;
            int name = nameFor(told < MOST_FIELDS);
            int f = program.fields.add();
            program.fields.put(f, MEMBER_OWNER, owner);
            program.fields.put(f, MEMBER_NAME, name);
            program.fields.put(f, MEMBER_PLACE, at);
        }

        private void method() {
            take();
            int m = program.methods.size();
            enter(IN_METHOD, m, NONE);
            int at = place;
            int p = kind == T_NAME && m < MOST_METHODS ? newPoint(RUN, 0) : NONE;
            int name = nameFor(p >= 0);
            if (!stopped) {
                program.methods.add();
            }
            program.points.put(p, POINT_NAME, name);
            program.methods.put(m, MEMBER_OWNER, owner);
            program.methods.put(m, MEMBER_PLACE, at);
            program.methods.put(m, MEMBER_NAME, name);
            program.methods.put(m, METHOD_POINT, p);
            parameters();
            program.points.put(p, POINT_ARGS, slots);
            program.methods.put(m, METHOD_PARAMS, slots);
            program.methods.put(m, METHOD_START, program.code.size());
            block(1);
            emit(OP_END, 0);
        }

        private void mainItem() {
            if (program.mainStart >= 0) {
                faults.note(4, place);
            } else {
                program.mainStart = program.code.size();
            }
            take();
            enter(IN_MAIN, 0, NONE);
            block(1);
            emit(OP_END, 0);
        }

        private void orderItem() {
            take();
            orderName();
            for (int i = 0; i <= MOST_TOKENS && kind == T_COMMA; i++) {
                take();
                orderName();
            }
            need(T_SEMICOLON);
        }

        private void orderName() {
            int o = program.orders.add();
            program.orders.put(o, USE_PLACE, place);
            program.orders.put(o, USE_NAME, nameFor(true));
        }

        private void pickPart() {
            take();
            int a = program.aspects.size() - 1;
            int p = program.picks.size();
            int at = place;
            int name = nameFor(p < MOST_PICKS);
            if (!stopped) {
                program.picks.add();
            }
            enter(IN_ADVICE, NONE, a);
            home = p;
            program.picks.put(p, PICK_ASPECT, a);
            program.picks.put(p, PICK_NAME, name);
            program.picks.put(p, PICK_PLACE, at);
            parameters();
            program.picks.put(p, PICK_PARAMS, slots);
            program.picks.put(p, PICK_REQUIRED, slotBits());
            need(T_BECOMES);
            program.picks.put(p, PICK_ROOT, either(1, NO_PICKS));
            need(T_SEMICOLON);
        }

        private void advicePart() {
            int word = kind;
            int a = program.aspects.size() - 1;
            int i = program.advice.size();
            if (i >= MOST_ADVICE) {
                refuse(3);
                return;
            }
            program.advice.add();
            program.advice.put(i, ADVICE_ASPECT, a);
            program.advice.put(i, ADVICE_PLACE, place);
            program.advice.put(i, ADVICE_FORM, word == T_BEFORE ? BEFORE : word == T_BEHIND ? BEHIND : AROUND);
            take();
            enter(IN_ADVICE, i, a);
            parameters();
            program.advice.put(i, ADVICE_REQUIRED, slotBits());
            if (word == T_BEHIND && (kind == T_GIVE || kind == T_FAIL)) {
                program.advice.put(i, ADVICE_FORM, kind == T_GIVE ? BEHIND_GIVE : BEHIND_FAIL);
                program.advice.put(i, ADVICE_GIVEN, slots);
                take();
                parameter();
            }
            program.advice.put(i, ADVICE_ROOT, either(1, ANY));
            around = word == T_AROUND;
            program.advice.put(i, ADVICE_START, program.code.size());
            block(1);
            emit(OP_END, 0);
        }

        private void barPart() {
            int a = program.aspects.size() - 1;
            int b = program.bars.size();
            if (b >= MOST_BARS) {
                refuse(3);
                return;
            }
            program.bars.add();
            program.bars.put(b, BAR_PLACE, place);
            program.bars.put(b, BAR_WARNS, kind == T_WARN ? 1 : 0);
            take();
            enter(IN_ADVICE, NONE, a);
            program.bars.put(b, BAR_ROOT, either(1, ANY));
            need(T_SEMICOLON);
        }

        // ---- P

        private boolean readyForPick(int depth, int mode) {
            boolean fits;
            switch (kind) {
                case T_NOT:
                case T_LEFT:
                case T_CALL:
                case T_RUN:
                case T_MAKE:
                case T_GET:
                case T_SET:
                case T_CATCH:
                case T_WITHIN:
                case T_SELF:
                case T_TARGET:
                case T_ARGS:
                case T_IF: fits = true; break;
                case T_FLOW: fits = mode < NO_FLOWS; break;
                case T_NAME: fits = mode < NO_PICKS; break;
                default: fits = false; break;
            }
            if (!fits) {
                refuse(2);
            } else if (depth > MOST_NESTED) {
                refuse(3);
            }
            return !stopped;
        }

        /** P: the node of it. */
        private int either(int depth, int mode) {
            int first = both(depth, mode);
            if (kind != T_OR) {
                return first;
            }
            int at = place;
            int last = first;
            for (int i = 0; i <= MOST_TOKENS && kind == T_OR; i++) {
                take();
                int more = both(depth + 1, mode);
                program.nodes.put(last, NODE_NEXT, more);
                last = more;
            }
            return newNode(T_OR, at, first);
        }

        /** PALL. */
        private int both(int depth, int mode) {
            int first = one(depth, mode);
            if (kind != T_AND) {
                return first;
            }
            int at = place;
            int last = first;
            for (int i = 0; i <= MOST_TOKENS && kind == T_AND; i++) {
                take();
                int more = one(depth + 1, mode);
                program.nodes.put(last, NODE_NEXT, more);
                last = more;
            }
            return newNode(T_AND, at, first);
        }

        /** PONE. */
        private int one(int depth, int mode) {
            if (!readyForPick(depth, mode)) {
                return NONE;
            }
            int at = place;
            switch (kind) {
                case T_NOT:
                    take();
                    return newNode(T_NOT, at, one(depth + 1, mode));
                case T_LEFT: {
                    take();
                    int inside = either(depth + 1, mode);
                    need(T_RIGHT);
                    return inside;
                }
                case T_FLOW: {
                    take();
                    need(T_LEFT);
                    int inside = either(depth + 1, NO_FLOWS);
                    need(T_RIGHT);
                    return newNode(T_FLOW, at, inside);
                }
                case T_IF: {
                    take();
                    need(T_LEFT);
                    int start = program.code.size();
                    bare = true;
                    expression(depth + 1);
                    bare = false;
                    emit(OP_END, 0);
                    need(T_RIGHT);
                    int n = newNode(T_IF, at, NONE);
                    program.nodes.put(n, NODE_A, start);
                    return n;
                }
                case T_SELF:
                case T_TARGET: return ofObject();
                case T_ARGS: return ofList(T_ARGS);
                case T_NAME: return ofList(T_PICK);
                case T_CATCH:
                    take();
                    return newNode(T_CATCH, at, NONE);
                default: return ofPattern();
            }
        }

        private int ofPattern() {
            int n = newNode(kind, place, NONE);
            int word = kind;
            take();
            if (kind != T_PATTERN) {
                refuse(2);
                return n;
            }
            int p = value;
            boolean two = tokens.ofPattern(p, PATTERN_SECOND_LENGTH) > 0;
            boolean plus = tokens.ofPattern(p, PATTERN_PLUS) == 1;
            if (word == T_MAKE ? two : word != T_WITHIN && plus && !two) {
                faults.note(7, place);
            }
            program.nodes.put(n, NODE_A, p);
            take();
            return n;
        }

        private int ofObject() {
            int word = kind;
            take();
            need(T_LEFT);
            int n = newNode(word, place, NONE);
            int at = place;
            int name = nameFor(true);
            int slot = slotOf(name);
            program.nodes.put(n, NODE_A, slot);
            program.nodes.put(n, NODE_B, name);
            if (slot < 0) {
                useClass(name, at);
            }
            need(T_RIGHT);
            return n;
        }

        /** args, or a pick, with the row of NAMES behind it. */
        private int ofList(int what) {
            int n = newNode(what, place, NONE);
            int from = program.lists.size();
            program.nodes.put(n, NODE_A, value);
            take();
            need(T_LEFT);
            boolean more = kind != T_RIGHT;
            for (int i = 0; i <= MOST_TOKENS && more; i++) {
                listed(what, program.lists.size() - from);
                more = kind == T_COMMA;
                if (more) {
                    take();
                }
            }
            need(T_RIGHT);
            program.nodes.put(n, NODE_B, from);
            program.nodes.put(n, NODE_C, program.lists.size() - from);
            return n;
        }

        private void listed(int what, int before) {
            boolean any = what == T_ARGS && kind == T_STAR;
            if (kind != T_NAME && !any) {
                refuse(2);
            } else if (what == T_ARGS && before >= MOST_ARGS) {
                refuse(3);
            }
            if (stopped) {
                return;
            }
            int slot = any ? NONE : slotOf(value);
            int l = program.lists.add();
            program.lists.put(l, LIST_NAME, any ? NONE : value);
            program.lists.put(l, LIST_PLACE, place);
            program.lists.put(l, LIST_SLOT, slot);
            if (!any && slot < 0 && what == T_ARGS) {
                useClass(value, place);
            } else if (slot < 0 && what == T_PICK) {
                faults.note(5, place);
            }
            take();
        }

        // ---- BLOCKS and S

        private boolean beginsOperand() {
            return kind == T_WHOLE || kind == T_NONE || kind == T_NAME || kind == T_LEFT || kind == T_NOT
                    || kind == T_MINUS || !bare && (kind == T_SELF || kind == T_NEW || kind == T_GO);
        }

        private boolean beginsStatement() {
            return kind == T_LET || kind == T_IF || kind == T_WHILE || kind == T_RETURN || kind == T_THROW
                    || kind == T_TRY || kind == T_PRINT || beginsOperand();
        }

        /** A BLOCK, whose S are as deep as told. */
        private void block(int depth) {
            need(T_OPEN);
            int before = known.size();
            for (int i = 0; i <= MOST_TOKENS && beginsStatement(); i++) {
                statement(depth);
            }
            need(T_CLOSE);
            known.cut(before);
        }

        private void statement(int depth) {
            if (depth > MOST_NESTED) {
                refuse(3);
                return;
            }
            int start = emit(OP_STEP, 0);
            int word = kind;
            switch (word) {
                case T_IF: ifStatement(depth); break;
                case T_WHILE: whileStatement(start, depth); break;
                case T_TRY: tryStatement(depth); break;
                case T_LET: {
                    take();
                    int at = place;
                    int name = nameFor(slots < MOST_LOCALS);
                    need(T_BECOMES);
                    expression(depth + 1);
                    need(T_SEMICOLON);
                    emit(OP_KEEP_LOCAL, declare(name, at));
                    break;
                }
                case T_RETURN:
                    take();
                    if (kind == T_SEMICOLON) {
                        emit(OP_NONE, 0);
                    } else {
                        expression(depth + 1);
                    }
                    need(T_SEMICOLON);
                    emit(OP_RETURN, 0);
                    break;
                case T_THROW:
                case T_PRINT:
                    take();
                    expression(depth + 1);
                    need(T_SEMICOLON);
                    emit(word == T_THROW ? OP_THROW : OP_PRINT, 0);
                    break;
                default:
                    expression(depth + 1);
                    if (kind == T_BECOMES && (shape == ALONE || shape == FIELD)) {
                        int last = program.code.size() - 1;
                        int op = program.code.at(last, CODE_OP);
                        int a = program.code.at(last, CODE_A);
                        int at = program.code.at(last, CODE_PLACE);
                        program.code.cut(last);
                        take();
                        expression(depth + 1);
                        need(T_SEMICOLON);
                        emitKept(op, a, at);
                    } else {
                        endAct();
                    }
                    break;
            }
        }

        /** What worked the E before = keeps the value instead. */
        private void emitKept(int op, int a, int at) {
            if (op == OP_REACH) {
                program.points.put(a, POINT_KIND, SET);
                program.points.put(a, POINT_ARGS, 1);
                emit(OP_REACH, a);
                emit(OP_POP, 0);
            } else {
                nameOp(op == OP_LOCAL ? OP_KEEP_LOCAL : OP_KEEP_LOOSE, a, at);
            }
        }

        /** The ; of a call, new or go alone. */
        private void endAct() {
            if (kind == T_SEMICOLON && shape == ACT) {
                take();
                emit(OP_POP, 0);
            } else {
                refuse(2);
            }
        }

        private void ifStatement(int depth) {
            take();
            expression(depth + 1);
            int over = emit(OP_UNLESS, 0);
            block(depth + 1);
            if (kind != T_ELSE) {
                land(over);
                return;
            }
            take();
            int end = emit(OP_JUMP, 0);
            land(over);
            if (kind == T_IF) {
                statement(depth + 1);
            } else {
                block(depth + 1);
            }
            land(end);
        }

        private void whileStatement(int start, int depth) {
            take();
            expression(depth + 1);
            int over = emit(OP_UNLESS, 0);
            block(depth + 1);
            emit(OP_JUMP, start);
            land(over);
        }

        private void tryStatement(int depth) {
            take();
            int t = program.tries.add();
            program.tries.put(t, TRY_FROM, program.code.size());
            block(depth + 1);
            program.tries.put(t, TRY_TO, program.code.size());
            int over = emit(OP_JUMP, 0);
            program.tries.put(t, TRY_CATCH, program.code.size());
            if (kind != T_CATCH) {
                refuse(2);
            }
            emit(OP_REACH, newPoint(CATCH, 1));
            take();
            int at = place;
            int name = nameFor(slots < MOST_LOCALS);
            int before = known.size();
            emit(OP_KEEP_LOCAL, declare(name, at));
            block(depth + 1);
            known.cut(before);
            land(over);
        }

        // ---- E

        private boolean readyForOperand(int depth) {
            if (!beginsOperand()) {
                refuse(2);
            } else if (depth > MOST_NESTED) {
                refuse(3);
            }
            return !stopped;
        }

        private void expression(int depth) {
            climb(0, depth);
        }

        private int strength() {
            switch (kind) {
                case T_OR: return 0;
                case T_AND: return 1;
                case T_SAME:
                case T_UNLIKE:
                case T_LESS:
                case T_LESS_SAME:
                case T_MORE:
                case T_MORE_SAME: return 2;
                case T_PLUS:
                case T_MINUS: return 3;
                case T_STAR:
                case T_SLASH:
                case T_PERCENT: return 4;
                default: return NONE;
            }
        }

        /** Operands with operators between them that are at least so strong. */
        private void climb(int least, int depth) {
            unary(depth);
            int mine = strength();
            for (int i = 0; i <= MOST_TOKENS && mine >= least; i++) {
                int sign = kind;
                take();
                int jump = mine == 0 ? emit(OP_OR, 0) : mine == 1 ? emit(OP_AND, 0) : NONE;
                climb(mine + 1, depth + 1);
                if (mine <= 1) {
                    emit(OP_TRUTH, 0);
                    land(jump);
                } else {
                    emit(OP_SIGN, sign);
                }
                shape = OTHER;
                mine = strength();
            }
        }

        private void unary(int depth) {
            if (!readyForOperand(depth)) {
                return;
            }
            if (kind == T_NOT || kind == T_MINUS) {
                int op = kind == T_NOT ? OP_NOT : OP_MINUS;
                take();
                unary(depth + 1);
                emit(op, 0);
                shape = OTHER;
            } else {
                operand(depth);
            }
        }

        private void operand(int depth) {
            head(depth);
            for (int i = 0; i <= MOST_TOKENS && kind == T_DOT && !bare; i++) {
                int p = newPoint(GET, 0);
                take();
                program.points.put(p, POINT_NAME, nameFor(true));
                shape = FIELD;
                if (kind == T_LEFT) {
                    program.points.put(p, POINT_KIND, CALL);
                    program.points.put(p, POINT_ARGS, arguments(depth));
                    shape = ACT;
                }
                emit(OP_REACH, p);
            }
            if (kind == T_IS) {
                take();
                emit(OP_IS, className());
                shape = OTHER;
            }
        }

        private void head(int depth) {
            shape = OTHER;
            switch (kind) {
                case T_WHOLE:
                    emit(OP_WHOLE, value);
                    take();
                    break;
                case T_NONE:
                    emit(OP_NONE, 0);
                    take();
                    break;
                case T_SELF:
                    if (where != IN_METHOD) {
                        faults.note(5, place);
                    }
                    emit(OP_SELF, 0);
                    take();
                    break;
                case T_NAME: {
                    int slot = slotOf(value);
                    nameOp(slot < 0 ? OP_LOOSE : OP_LOCAL, slot < 0 ? value : slot, place);
                    take();
                    shape = ALONE;
                    break;
                }
                case T_NEW: headNew(depth); break;
                case T_GO: headGo(depth); break;
                default:
                    need(T_LEFT);
                    expression(depth + 1);
                    need(T_RIGHT);
                    shape = OTHER;
                    break;
            }
        }

        private void nameOp(int op, int a, int at) {
            int i = emit(op, a);
            program.code.put(i, CODE_B, aspect);
            program.code.put(i, CODE_PLACE, at);
        }

        private void headNew(int depth) {
            int p = newPoint(MAKE, 0);
            take();
            program.points.put(p, POINT_NAME, className());
            program.points.put(p, POINT_ARGS, arguments(depth));
            emit(OP_REACH, p);
            shape = ACT;
        }

        private void headGo(int depth) {
            if (!around) {
                faults.note(5, place);
            }
            take();
            emit(OP_GO, kind == T_LEFT ? arguments(depth) : NONE);
            shape = ACT;
        }

        /** ( [E {, E}] ) behind an operand of that depth: how many. */
        private int arguments(int depth) {
            int count = 0;
            need(T_LEFT);
            if (kind != T_RIGHT) {
                argument(0, depth + 1);
                count = 1;
                for (int i = 0; i <= MOST_TOKENS && kind == T_COMMA; i++) {
                    take();
                    argument(count, depth + 1);
                    count++;
                }
            }
            need(T_RIGHT);
            return count;
        }

        private void argument(int before, int depth) {
            if (before >= MOST_ARGS && beginsOperand()) {
                refuse(3);
            } else {
                expression(depth);
            }
        }
    }

    /** Finds the FAULTS 4 to 7 of a TEXT that has been read, and says in the Program what its NAMES mean. */
    private static final class Judge {
        private final Faults faults;
        private final Program program;
        /** The parameters, a bit each, that the P just looked at does not bind as it has to. */
        private int spoilt;

        Judge(Faults faults, Program program) {
            this.faults = faults;
            this.program = program;
        }

        void judgeAll() {
            judgeUses();
            judgeNames();
            judgeUnders();
            layClasses();
            judgeMembers(program.fields, program.methods);
            judgeMembers(program.methods, program.fields);
            layFields();
            judgeOwn(program.owns, OWN_ASPECT, OWN_NAME, OWN_PLACE);
            judgeOwn(program.picks, PICK_ASPECT, PICK_NAME, PICK_PLACE);
            judgeOrders();
            judgeCode();
            judgeNodes();
            judgePicks();
            judgeAdvice();
            layOrder();
        }

        private void judgeUses() {
            for (int u = 0; u < program.uses.size(); u++) {
                if (program.classOf(program.uses.at(u, USE_NAME)) < 0) {
                    faults.note(5, program.uses.at(u, USE_PLACE));
                }
            }
        }

        private void judgeNames() {
            Table classes = program.classes;
            Table aspects = program.aspects;
            for (int c = 0; c < classes.size(); c++) {
                int name = classes.at(c, CLASS_NAME);
                int place = classes.at(c, CLASS_PLACE);
                int other = program.aspectOf(name);
                if (program.classOf(name) < c || other >= 0 && aspects.at(other, ASPECT_PLACE) < place) {
                    faults.note(4, place);
                }
            }
            for (int a = 0; a < aspects.size(); a++) {
                int name = aspects.at(a, ASPECT_NAME);
                int place = aspects.at(a, ASPECT_PLACE);
                int other = program.classOf(name);
                if (program.aspectOf(name) < a || other >= 0 && classes.at(other, CLASS_PLACE) < place) {
                    faults.note(4, place);
                }
            }
        }

        // ---- what stands above what

        private void judgeUnders() {
            Table classes = program.classes;
            for (int c = 0; c < classes.size(); c++) {
                int above = program.classOf(classes.at(c, CLASS_UNDER));
                boolean first = program.classOf(classes.at(c, CLASS_NAME)) == c;
                if (above >= 0 && first) {
                    setAbove(c, above, classes.at(c, CLASS_UNDER_PLACE));
                }
            }
            for (int u = 0; u < program.unders.size(); u++) {
                int c = program.classOf(program.unders.at(u, UNDER_CLASS));
                int above = program.classOf(program.unders.at(u, UNDER_ABOVE));
                int place = program.unders.at(u, UNDER_PLACE);
                if (c >= 0 && classes.at(c, CLASS_ABOVE) >= 0) {
                    faults.note(4, place);
                } else if (c >= 0 && above >= 0) {
                    setAbove(c, above, place);
                }
            }
        }

        private void setAbove(int c, int above, int place) {
            int up = above;
            for (int i = 0; i <= MOST_CLASSES && up >= 0; i++) {
                if (up == c) {
                    faults.note(5, place);
                    return;
                }
                up = program.classes.at(up, CLASS_ABOVE);
            }
            program.classes.put(c, CLASS_ABOVE, above);
        }

        /** A bit for each class that is a class or above it, and for each that is it or below it. */
        private void layClasses() {
            Table classes = program.classes;
            for (int c = 0; c < classes.size(); c++) {
                classes.put(c, CLASS_BELOWS, 0);
            }
            for (int c = 0; c < classes.size(); c++) {
                int bits = 0;
                int up = c;
                for (int i = 0; i <= MOST_CLASSES && up >= 0; i++) {
                    bits |= 1 << up;
                    classes.put(up, CLASS_BELOWS, classes.at(up, CLASS_BELOWS) | 1 << c);
                    up = classes.at(up, CLASS_ABOVE);
                }
                classes.put(c, CLASS_ABOVES, bits);
            }
        }

        // ---- members

        /** Members of a class that others, of the same sort or not, tell before them. */
        private void judgeMembers(Table members, Table others) {
            for (int m = 0; m < members.size(); m++) {
                members.put(m, MEMBER_CLASS, program.classOf(members.at(m, MEMBER_OWNER)));
            }
            for (int m = 0; m < members.size(); m++) {
                if (isTold(members, m, members) || isTold(members, m, others)) {
                    faults.note(4, members.at(m, MEMBER_PLACE));
                }
            }
        }

        private static boolean isTold(Table members, int m, Table others) {
            int place = members.at(m, MEMBER_PLACE);
            for (int i = 0; i < others.size() && others.at(i, MEMBER_PLACE) < place; i++) {
                if (others.at(i, MEMBER_NAME) == members.at(m, MEMBER_NAME)
                        && others.at(i, MEMBER_OWNER) == members.at(m, MEMBER_OWNER)) {
                    return true;
                }
            }
            return false;
        }

        /** The slots of fields in an OBJECT: class by class, the uppermost one first. */
        private void layFields() {
            Table classes = program.classes;
            for (int c = 0; c < classes.size(); c++) {
                classes.put(c, CLASS_FIELDS, countFields(c));
            }
            for (int c = 0; c < classes.size(); c++) {
                int offset = 0;
                for (int other = 0; other < classes.size(); other++) {
                    offset += other != c && program.isUnder(c, other) ? classes.at(other, CLASS_FIELDS) : 0;
                }
                classes.put(c, CLASS_OFFSET, offset);
                int slot = offset;
                for (int f = 0; f < program.fields.size(); f++) {
                    if (program.fields.at(f, MEMBER_CLASS) == c) {
                        program.fields.put(f, FIELD_SLOT, slot);
                        slot++;
                    }
                }
            }
        }

        private int countFields(int c) {
            int count = 0;
            for (int f = 0; f < program.fields.size(); f++) {
                count += program.fields.at(f, MEMBER_CLASS) == c ? 1 : 0;
            }
            return count;
        }

        /** Fields, or picks, of an aspect that are told already. */
        private void judgeOwn(Table rows, int aspect, int name, int place) {
            for (int r = 0; r < rows.size(); r++) {
                boolean told = false;
                for (int i = 0; i < r && !told; i++) {
                    told = rows.at(i, aspect) == rows.at(r, aspect) && rows.at(i, name) == rows.at(r, name);
                }
                if (told) {
                    faults.note(4, rows.at(r, place));
                }
            }
        }

        // ---- ORDER

        private void judgeOrders() {
            int rank = 0;
            for (int o = 0; o < program.orders.size(); o++) {
                int a = program.aspectOf(program.orders.at(o, USE_NAME));
                if (a < 0) {
                    faults.note(5, program.orders.at(o, USE_PLACE));
                } else if (program.aspects.at(a, ASPECT_RANK) >= 0) {
                    faults.note(4, program.orders.at(o, USE_PLACE));
                } else {
                    program.aspects.put(a, ASPECT_RANK, rank);
                    rank++;
                }
            }
            for (int a = 0; a < program.aspects.size(); a++) {
                if (program.aspects.at(a, ASPECT_RANK) < 0) {
                    program.aspects.put(a, ASPECT_RANK, rank);
                    rank++;
                }
            }
        }

        private void layOrder() {
            for (int rank = 0; rank < program.aspects.size(); rank++) {
                int aspect = Program.firstWith(program.aspects, ASPECT_RANK, rank);
                for (int a = 0; a < program.advice.size(); a++) {
                    if (program.advice.at(a, ADVICE_ASPECT) == aspect) {
                        program.order.put(program.order.add(), 0, a);
                    }
                }
            }
        }

        // ---- E

        private void judgeCode() {
            for (int i = 0; i < program.code.size(); i++) {
                int op = program.code.at(i, CODE_OP);
                if (op == OP_IS) {
                    program.code.put(i, CODE_A, program.classOf(program.code.at(i, CODE_A)));
                } else if (op == OP_LOOSE || op == OP_KEEP_LOOSE) {
                    judgeLoose(i, op == OP_LOOSE ? OP_OWN : OP_KEEP_OWN);
                }
            }
            for (int p = 0; p < program.points.size(); p++) {
                if (program.points.at(p, POINT_KIND) == MAKE) {
                    program.points.put(p, POINT_CLASS, program.classOf(program.points.at(p, POINT_NAME)));
                }
            }
        }

        /** A NAME that is no LOCAL has to be a field of the aspect. */
        private void judgeLoose(int i, int op) {
            int name = program.code.at(i, CODE_A);
            int aspect = program.code.at(i, CODE_B);
            for (int f = 0; f < program.owns.size() && aspect >= 0; f++) {
                if (program.owns.at(f, OWN_ASPECT) == aspect && program.owns.at(f, OWN_NAME) == name) {
                    program.code.put(i, CODE_OP, op);
                    program.code.put(i, CODE_A, aspect);
                    program.code.put(i, CODE_B, program.owns.at(f, OWN_INDEX));
                    return;
                }
            }
            faults.note(5, program.code.at(i, CODE_PLACE));
        }

        // ---- P

        private void judgeNodes() {
            for (int l = 0; l < program.lists.size(); l++) {
                int name = program.lists.at(l, LIST_NAME);
                boolean type = name >= 0 && program.lists.at(l, LIST_SLOT) < 0;
                program.lists.put(l, LIST_CLASS, type ? program.classOf(name) : NONE);
            }
            for (int n = 0; n < program.nodes.size(); n++) {
                int kind = program.nodes.at(n, NODE_KIND);
                if (kind == T_SELF || kind == T_TARGET) {
                    program.nodes.put(n, NODE_B, program.classOf(program.nodes.at(n, NODE_B)));
                } else if (kind == T_PICK) {
                    judgeNamed(n);
                }
            }
        }

        /** A pick that is named: the node of its P comes to stand below. */
        private void judgeNamed(int n) {
            int aspect = program.nodes.at(n, NODE_ASPECT);
            int name = program.nodes.at(n, NODE_A);
            for (int p = 0; p < program.picks.size(); p++) {
                if (program.picks.at(p, PICK_ASPECT) == aspect && program.picks.at(p, PICK_NAME) == name) {
                    program.nodes.put(n, NODE_FIRST, program.picks.at(p, PICK_ROOT));
                    if (program.picks.at(p, PICK_PARAMS) != program.nodes.at(n, NODE_C)) {
                        faults.note(5, program.nodes.at(n, NODE_PLACE));
                    }
                    return;
                }
            }
            faults.note(5, program.nodes.at(n, NODE_PLACE));
        }

        private void judgePicks() {
            for (int p = 0; p < program.picks.size(); p++) {
                spoilt = 0;
                int mask = bound(program.picks.at(p, PICK_ROOT), false, 0);
                if (spoilt != 0 || mask != program.picks.at(p, PICK_REQUIRED)) {
                    faults.note(6, program.picks.at(p, PICK_PLACE));
                }
            }
        }

        /** The NAME of give or fail is not among the required, so that it may not be bound. */
        private void judgeAdvice() {
            for (int a = 0; a < program.advice.size(); a++) {
                spoilt = 0;
                int mask = bound(program.advice.at(a, ADVICE_ROOT), false, 0);
                if (spoilt != 0 || mask != program.advice.at(a, ADVICE_REQUIRED)) {
                    faults.note(6, program.advice.at(a, ADVICE_PLACE));
                }
            }
            for (int b = 0; b < program.bars.size(); b++) {
                bound(program.bars.at(b, BAR_ROOT), false, 0);
            }
        }

        /** The parameters that a P binds, a bit each; shut: it stands in a flow or below a not. */
        private int bound(int n, boolean shut, int depth) {
            if (n < 0 || depth > DEEPEST) {
                return 0;
            }
            int kind = program.nodes.at(n, NODE_KIND);
            int bits = 0;
            if (kind == T_AND || kind == T_OR) {
                int child = program.nodes.at(n, NODE_FIRST);
                bits = bound(child, shut, depth + 1);
                child = program.nodes.at(child, NODE_NEXT);
                for (int i = 0; i <= MOST_TOKENS && child >= 0; i++) {
                    int more = bound(child, shut, depth + 1);
                    spoilt |= kind == T_AND ? bits & more : bits ^ more;
                    bits |= more;
                    child = program.nodes.at(child, NODE_NEXT);
                }
            } else if (kind == T_NOT || kind == T_FLOW) {
                bits = bound(program.nodes.at(n, NODE_FIRST), true, depth + 1);
            } else if (kind == T_SELF || kind == T_TARGET) {
                bits = slotBit(program.nodes.at(n, NODE_A), program.nodes.at(n, NODE_PLACE), shut);
            } else if (kind == T_ARGS || kind == T_PICK) {
                bits = boundByList(program.nodes.at(n, NODE_B), program.nodes.at(n, NODE_C), shut);
            }
            program.nodes.put(n, NODE_MASK, bits);
            return bits;
        }

        private int boundByList(int from, int count, boolean shut) {
            int bits = 0;
            for (int l = from; l < from + count; l++) {
                int bit = slotBit(program.lists.at(l, LIST_SLOT), program.lists.at(l, LIST_PLACE), shut);
                spoilt |= bits & bit;
                bits |= bit;
            }
            return bits;
        }

        private int slotBit(int slot, int place, boolean shut) {
            if (slot < 0) {
                return 0;
            }
            if (shut) {
                faults.note(6, place);
            }
            return 1 << slot;
        }
    }

    /** What is KNOWN AHEAD of each P at each POINT as it stands, and what is LEFT of it. */
    private static final class Ahead {
        static final int NEVER = 0;
        static final int ALWAYS = 1;
        static final int EITHER = 2;
        /** As many as 900 TOKENS can make: POINTS of two TOKENS and nodes of one, 16 POINTS to an int. */
        private static final int MOST_WORDS = 7000;

        private final Tokens tokens;
        private final Faults faults;
        private final Program program;
        private final int[] bits = new int[MOST_WORDS];
        private final Table findings = new Table(MOST_BARS * MOST_POINTS, 1);
        private int stride;

        Ahead(Tokens tokens, Faults faults, Program program) {
            this.tokens = tokens;
            this.faults = faults;
            this.program = program;
        }

        /** The picks first: other P have them below. Below and before each node stand those of which it is made. */
        void weigh() {
            stride = (program.points.size() + 15) / 16;
            for (int pass = 0; pass < 2; pass++) {
                for (int n = 0; n < program.nodes.size(); n++) {
                    if (program.nodes.at(n, NODE_HOME) >= 0 == (pass == 0)) {
                        weighNode(n);
                    }
                }
            }
            find();
        }

        int known(int n, int point) {
            int i = n * stride + (point >> 4);
            return n >= 0 && point >= 0 && i >= 0 && i < bits.length ? bits[i] >> ((point & 15) * 2) & 3 : NEVER;
        }

        /** How many are LEFT of a P at a POINT. */
        int left(int n, int point) {
            return leftBelow(n, point, 0);
        }

        private int leftBelow(int n, int point, int depth) {
            if (depth > DEEPEST || known(n, point) != EITHER) {
                return 0;
            }
            int kind = program.nodes.at(n, NODE_KIND);
            if (kind == T_NOT || kind == T_PICK) {
                return leftBelow(program.nodes.at(n, NODE_FIRST), point, depth + 1);
            }
            if (kind != T_AND && kind != T_OR) {
                return 1;
            }
            int count = 0;
            int child = program.nodes.at(n, NODE_FIRST);
            for (int i = 0; i <= MOST_TOKENS && child >= 0; i++) {
                count += leftBelow(child, point, depth + 1);
                child = program.nodes.at(child, NODE_NEXT);
            }
            return count;
        }

        int ofFinding(int k, int what) {
            int packed = findings.at(k, 0);
            int bar = packed / 2 / MOST_POINTS;
            switch (what) {
                case 0: return bar;
                case 1: return program.bars.at(bar, BAR_WARNS);
                case 2: return packed / 2 % MOST_POINTS;
                default: return 1 + packed % 2;
            }
        }

        /** Bars and warns; a bar that is 1 at some POINT is a FAULT. */
        private void find() {
            findings.cut(0);
            for (int b = 0; b < program.bars.size(); b++) {
                int root = program.bars.at(b, BAR_ROOT);
                for (int p = 0; p < program.points.size(); p++) {
                    int is = known(root, p);
                    if (is != NEVER) {
                        findings.put(findings.add(), 0, (b * MOST_POINTS + p) * 2 + is - 1);
                    }
                    if (is == ALWAYS && program.bars.at(b, BAR_WARNS) == 0) {
                        faults.note(8, program.bars.at(b, BAR_PLACE));
                    }
                }
            }
        }

        private void set(int n, int point, int is) {
            int i = n * stride + (point >> 4);
            int shift = (point & 15) * 2;
            if (n >= 0 && point >= 0 && i >= 0 && i < bits.length) {
                bits[i] = bits[i] & ~(3 << shift) | is << shift;
            }
        }

        private void weighNode(int n) {
            int kind = program.nodes.at(n, NODE_KIND);
            if (kind == T_CALL || kind == T_GET || kind == T_SET || kind == T_RUN || kind == T_MAKE || kind == T_WITHIN) {
                program.nodes.put(n, NODE_B, typesOf(program.nodes.at(n, NODE_A)));
            }
            boolean never = kind == T_FLOW && isNever(program.nodes.at(n, NODE_FIRST));
            for (int p = 0; p < program.points.size(); p++) {
                int is;
                if (kind == T_AND || kind == T_OR) {
                    is = ofSides(kind, program.nodes.at(n, NODE_FIRST), p);
                } else if (kind == T_NOT || kind == T_PICK || kind == T_FLOW) {
                    is = ofBelow(kind, known(program.nodes.at(n, NODE_FIRST), p), never);
                } else {
                    is = ofLeaf(n, kind, p);
                }
                set(n, p, is);
            }
        }

        private boolean isNever(int n) {
            for (int p = 0; p < program.points.size(); p++) {
                if (known(n, p) != NEVER) {
                    return false;
                }
            }
            return true;
        }

        private static int ofBelow(int kind, int below, boolean never) {
            if (kind == T_NOT) {
                return below == EITHER ? EITHER : 1 - below;
            }
            if (kind == T_PICK || below == ALWAYS) {
                return below;
            }
            return never ? NEVER : EITHER;
        }

        private int ofSides(int kind, int first, int point) {
            int is = known(first, point);
            int child = program.nodes.at(first, NODE_NEXT);
            for (int i = 0; i <= MOST_TOKENS && child >= 0; i++) {
                int more = known(child, point);
                if (kind == T_AND) {
                    is = is == NEVER || more == NEVER ? NEVER : Math.max(is, more);
                } else if (is != ALWAYS) {
                    boolean always = more == ALWAYS && (is == NEVER || program.nodes.at(child, NODE_MASK) == 0);
                    is = always ? ALWAYS : is == NEVER && more == NEVER ? NEVER : EITHER;
                }
                child = program.nodes.at(child, NODE_NEXT);
            }
            return is;
        }

        /** The classes that the TYPE of a PATTERN matches, a bit each. */
        private int typesOf(int pattern) {
            int types = 0;
            for (int c = 0; c < program.classes.size(); c++) {
                if (firstMatches(pattern, program.classes.at(c, CLASS_NAME))) {
                    types |= tokens.ofPattern(pattern, PATTERN_PLUS) == 1 ? program.classes.at(c, CLASS_BELOWS) : 1 << c;
                }
            }
            return types;
        }

        private boolean firstMatches(int pattern, int name) {
            return tokens.matches(tokens.ofPattern(pattern, PATTERN_FIRST),
                    tokens.ofPattern(pattern, PATTERN_FIRST_LENGTH), name);
        }

        private boolean lastMatches(int pattern, int name) {
            int part = tokens.ofPattern(pattern, PATTERN_SECOND_LENGTH) > 0 ? PATTERN_SECOND : PATTERN_FIRST;
            return tokens.matches(tokens.ofPattern(pattern, part), tokens.ofPattern(pattern, part + 1), name);
        }

        private int ofLeaf(int n, int kind, int point) {
            int what = program.points.at(point, POINT_KIND);
            switch (kind) {
                case T_CALL: return what == CALL ? ofNamed(n, point) : NEVER;
                case T_GET: return what == GET ? ofNamed(n, point) : NEVER;
                case T_SET: return what == SET ? ofNamed(n, point) : NEVER;
                case T_RUN: return what == RUN ? ofRun(n, point) : NEVER;
                case T_MAKE: return what == MAKE ? bit(n, program.points.at(point, POINT_CLASS)) : NEVER;
                case T_CATCH: return what == CATCH ? ALWAYS : NEVER;
                case T_WITHIN: return ofWithin(n, point);
                case T_SELF: return ofSelf(n, point);
                case T_TARGET: return what == RUN ? ofSelf(n, point) : what == MAKE || what == CATCH ? NEVER : EITHER;
                case T_ARGS: return ofArgs(n, point);
                default: return EITHER;
            }
        }

        private int bit(int n, int type) {
            return type >= 0 ? program.nodes.at(n, NODE_B) >> type & 1 : NEVER;
        }

        private int ofNamed(int n, int point) {
            int pattern = program.nodes.at(n, NODE_A);
            if (!lastMatches(pattern, program.points.at(point, POINT_NAME))) {
                return NEVER;
            }
            if (tokens.ofPattern(pattern, PATTERN_SECOND_LENGTH) == 0) {
                return ALWAYS;
            }
            return program.nodes.at(n, NODE_B) == 0 ? NEVER : EITHER;
        }

        private int ofRun(int n, int point) {
            int pattern = program.nodes.at(n, NODE_A);
            if (!lastMatches(pattern, program.points.at(point, POINT_NAME))) {
                return NEVER;
            }
            boolean two = tokens.ofPattern(pattern, PATTERN_SECOND_LENGTH) > 0;
            return two ? bit(n, program.homeOf(point)) : ALWAYS;
        }

        private int ofWithin(int n, int point) {
            int pattern = program.nodes.at(n, NODE_A);
            int which = program.points.at(point, POINT_WHICH);
            boolean first;
            int last;
            switch (program.points.at(point, POINT_WHERE)) {
                case IN_MAIN:
                    first = firstMatches(pattern, Tokens.MAIN_NAME);
                    last = Tokens.MAIN_NAME;
                    break;
                case IN_METHOD:
                    first = bit(n, program.homeOf(point)) == ALWAYS;
                    last = program.methods.at(which, MEMBER_NAME);
                    break;
                default: {
                    int aspect = program.advice.at(which, ADVICE_ASPECT);
                    first = firstMatches(pattern, program.aspects.at(aspect, ASPECT_NAME));
                    last = Tokens.ADVICE_NAME;
                    break;
                }
            }
            boolean two = tokens.ofPattern(pattern, PATTERN_SECOND_LENGTH) > 0;
            return first && (!two || lastMatches(pattern, last)) ? ALWAYS : NEVER;
        }

        private int ofSelf(int n, int point) {
            int home = program.homeOf(point);
            if (home < 0) {
                return NEVER;
            }
            int type = program.nodes.at(n, NODE_B);
            if (program.nodes.at(n, NODE_A) >= 0 || program.isUnder(home, type)) {
                return ALWAYS;
            }
            int shared = program.classes.at(home, CLASS_BELOWS) & program.classes.at(type, CLASS_BELOWS);
            return type < 0 || shared == 0 ? NEVER : EITHER;
        }

        private int ofArgs(int n, int point) {
            int from = program.nodes.at(n, NODE_B);
            int count = program.nodes.at(n, NODE_C);
            if (count != program.points.at(point, POINT_ARGS)) {
                return NEVER;
            }
            for (int l = from; l < from + count; l++) {
                if (program.lists.at(l, LIST_CLASS) >= 0) {
                    return EITHER;
                }
            }
            return ALWAYS;
        }
    }

    /** What a RUN has made so far, and the stack of values on which it works. */
    private static final class Store {
        /** NESTED leaves 15 E within one another, each with a target and up to five arguments that wait. */
        private static final int MOST_STACK = (MOST_BODIES + 2) * 112;
        private static final int MOST_CHAIN = MOST_CLASSES * MOST_FIELDS;
        private static final int MOST_COUNT = 2147483647;

        private final Program program;
        private final Table types = new Table(MOST_OBJECTS, 1);
        private final Values fields = new Values(MOST_OBJECTS * MOST_CHAIN);
        private final Values owns = new Values(MOST_ASPECTS * (MOST_OBJECTS + 1) * MOST_FIELDS);
        private final long[] stack = new long[MOST_STACK];
        private final Values printed = new Values(MOST_KEPT);
        private final Table kept = new Table(MOST_KEPT, 2);
        private int top;
        private int prints;
        private int rows;
        private int tests;

        Store(Program program) {
            this.program = program;
        }

        void start() {
            types.cut(0);
            kept.cut(0);
            top = 0;
            prints = 0;
            rows = 0;
            tests = 0;
            clearOwn(0);
        }

        // ---- the stack

        int top() {
            return top;
        }

        void cut(int size) {
            top = size;
        }

        void push(long value) {
            if (top >= 0 && top < stack.length) {
                stack[top] = value;
                top++;
            }
        }

        long pop() {
            if (top <= 0 || top > stack.length) {
                return Values.NOTHING;
            }
            top--;
            return stack[top];
        }

        /** Works an op that has nothing but the stack: 0, or the WHOLE that it throws. */
        int operate(int op, int a) {
            long right = pop();
            switch (op) {
                case OP_SIGN: return operateTwo(a, pop(), right);
                case OP_MINUS:
                    if (!Values.isWhole(right)) {
                        return -5;
                    }
                    push(Values.whole(-(int) right));
                    return 0;
                case OP_NOT:
                    push(Values.isTrue(right) ? Values.NO : Values.YES);
                    return 0;
                case OP_IS:
                    push(isOf(right, a) ? Values.YES : Values.NO);
                    return 0;
                default:
                    push(Values.isTrue(right) ? Values.YES : Values.NO);
                    return 0;
            }
        }

        /** The left side of an and, or: whether the right one need not be worked. */
        boolean settles(int op) {
            boolean is = Values.isTrue(pop());
            boolean settled = is == (op == OP_OR);
            if (settled) {
                push(is ? Values.YES : Values.NO);
            }
            return settled;
        }

        private int operateTwo(int sign, long left, long right) {
            if (sign == T_SAME || sign == T_UNLIKE) {
                push((left == right) == (sign == T_SAME) ? Values.YES : Values.NO);
                return 0;
            }
            if (!Values.isWhole(left) || !Values.isWhole(right)) {
                return -5;
            }
            int a = (int) left;
            int b = (int) right;
            int result;
            switch (sign) {
                case T_LESS: result = a < b ? 1 : 0; break;
                case T_LESS_SAME: result = a <= b ? 1 : 0; break;
                case T_MORE: result = a > b ? 1 : 0; break;
                case T_MORE_SAME: result = a >= b ? 1 : 0; break;
                case T_PLUS: result = a + b; break;
                case T_MINUS: result = a - b; break;
                case T_STAR: result = a * b; break;
                default:
                    if (b == 0) {
                        return -6;
                    }
                    result = sign == T_SLASH ? a / b : a % b;
                    break;
            }
            push(Values.whole(result));
            return 0;
        }

        // ---- OBJECTS

        int objects() {
            return types.size();
        }

        int typeOf(int object) {
            return types.at(object - 1, 0);
        }

        boolean isOf(long value, int type) {
            int object = Values.number(value);
            return object > 0 && type >= 0
                    && (program.classes.at(types.at(object - 1, 0), CLASS_ABOVES) >> type & 1) == 1;
        }

        /** A new OBJECT; there has to be room. */
        int make(int type) {
            types.put(types.add(), 0, type);
            int object = types.size();
            int most = program.fieldsOf(type);
            for (int i = 0; i < most; i++) {
                putField(object, i, Values.NOTHING);
            }
            clearOwn(object);
            return object;
        }

        long field(int object, int slot) {
            return fields.at((object - 1) * MOST_CHAIN + slot);
        }

        void putField(int object, int slot, long value) {
            fields.put((object - 1) * MOST_CHAIN + slot, value);
        }

        /** Field i of an aspect, of it for an OBJECT, or, with 0, for all. */
        long own(int aspect, int object, int i) {
            return owns.at((aspect * (MOST_OBJECTS + 1) + object) * MOST_FIELDS + i);
        }

        void putOwn(int aspect, int object, int i, long value) {
            owns.put((aspect * (MOST_OBJECTS + 1) + object) * MOST_FIELDS + i, value);
        }

        private void clearOwn(int object) {
            for (int a = 0; a < program.aspects.size(); a++) {
                int from = (a * (MOST_OBJECTS + 1) + object) * MOST_FIELDS;
                for (int i = from; i < from + MOST_FIELDS; i++) {
                    owns.put(i, Values.NOTHING);
                }
            }
        }

        // ---- what is counted and kept

        void countTest() {
            tests += tests < MOST_COUNT ? 1 : 0;
        }

        int tests() {
            return tests;
        }

        void print(long value) {
            printed.put(prints, value);
            prints += prints < MOST_COUNT ? 1 : 0;
        }

        int printed() {
            return prints;
        }

        long printedAt(int i) {
            return printed.at(i);
        }

        void addRow(int advice, int point) {
            int r = kept.add();
            kept.put(r, 0, advice);
            kept.put(r, 1, point);
            rows += rows < MOST_COUNT ? 1 : 0;
        }

        int rowsMade() {
            return rows;
        }

        int rowAt(int i, int what) {
            return kept.at(i, what);
        }
    }

    /** The POINTS that are reached and not left, and the advice that is held against them. */
    private static final class Holder {
        /** Each body has at most one POINT that it reached, and that one the RUN of a method. */
        private static final int MOST_REACHED = 2 * (MOST_BODIES + 2);
        /** SELF, TARGET, ARGS. */
        private static final int REACHED_WIDTH = 2 + MOST_ARGS;
        /** Where the parameters of a pick stand that is held just now, behind those of the advice. */
        private static final int PICKED = MOST_ARGS;

        private final Program program;
        private final Ahead ahead;
        private final Store store;
        /** Point, number of ARGS, how much advice is so. */
        private final Table reached = new Table(MOST_REACHED, 3);
        private final Values held = new Values(MOST_REACHED * REACHED_WIDTH);
        private final int[] matched = new int[MOST_REACHED * MOST_ADVICE];
        private final Values bindings = new Values(MOST_REACHED * MOST_ADVICE * MOST_ARGS);
        private final Values bound = new Values(2 * MOST_ARGS);
        private boolean woven;
        private int aspect;
        private int owner;
        /** The row of the POINT that was reached last; NONE if there is none. */
        private int latest = NONE;

        Holder(Program program, Ahead ahead, Store store) {
            this.program = program;
            this.ahead = ahead;
            this.store = store;
        }

        void start(boolean isWoven) {
            woven = isWoven;
            reached.cut(0);
            latest = NONE;
        }

        // ---- POINTS

        void reach(int point, long self, long target, Values args) {
            int r = reached.add();
            latest = r;
            int count = program.points.at(point, POINT_ARGS);
            reached.put(r, 0, point);
            reached.put(r, 1, count);
            reached.put(r, 2, 0);
            held.put(r * REACHED_WIDTH, self);
            held.put(r * REACHED_WIDTH + 1, target);
            for (int i = 0; i < count && i < MOST_ARGS; i++) {
                held.put(r * REACHED_WIDTH + 2 + i, args.at(i));
            }
        }

        void leave() {
            reached.cut(latest);
            latest = reached.size() - 1;
        }

        int reachedPoint() {
            return reached.at(latest, 0);
        }

        int args() {
            return reached.at(latest, 1);
        }

        int adviceCount() {
            return reached.at(latest, 2);
        }

        long target() {
            return held.at(latest * REACHED_WIDTH + 1);
        }

        int adviceAt(int j) {
            int i = latest * MOST_ADVICE + j;
            return j >= 0 && i >= 0 && i < matched.length ? matched[i] : NONE;
        }

        /** What parameter k of the j-th advice is bound to. */
        long boundAt(int j, int k) {
            return bindings.at((latest * MOST_ADVICE + j) * MOST_ARGS + k);
        }

        /** The OBJECT for which an advice is asked: 0 of an aspect that is not of each object; NONE if there is none. */
        int ownerOf(int ofAspect) {
            if (program.aspects.at(ofAspect, ASPECT_EACH) != 1) {
                return 0;
            }
            int target = Values.number(target());
            int object = target > 0 ? target : Values.number(held.at(latest * REACHED_WIDTH));
            return object > 0 ? object : NONE;
        }

        // ---- advice

        void holdAll() {
            int r = latest;
            for (int k = 0; k < program.order.size(); k++) {
                int a = program.order.at(k, 0);
                aspect = program.advice.at(a, ADVICE_ASPECT);
                owner = ownerOf(aspect);
                clearBound(0);
                if (owner >= 0 && holds(program.advice.at(a, ADVICE_ROOT), r, 0, 0)) {
                    keep(r, a);
                }
            }
        }

        private void keep(int r, int a) {
            int j = reached.at(r, 2);
            int i = r * MOST_ADVICE + j;
            if (j < 0 || j >= MOST_ADVICE || i < 0 || i >= matched.length) {
                return;
            }
            matched[i] = a;
            for (int k = 0; k < MOST_ARGS; k++) {
                bindings.put(i * MOST_ARGS + k, bound.at(k));
            }
            reached.put(r, 2, j + 1);
        }

        private void clearBound(int base) {
            for (int k = 0; k < MOST_ARGS; k++) {
                bound.put(base + k, Values.NOTHING);
            }
        }

        /** Holds a P against a POINT that is reached; base: where the parameters stand that it knows. */
        private boolean holds(int n, int r, int base, int depth) {
            if (depth > DEEPEST) {
                return false;
            }
            int is = woven ? ahead.known(n, reached.at(r, 0)) : Ahead.EITHER;
            if (is != Ahead.EITHER) {
                if (is == Ahead.ALWAYS) {
                    bindSure(n, r, base, depth);
                }
                return is == Ahead.ALWAYS;
            }
            int below = program.nodes.at(n, NODE_FIRST);
            switch (program.nodes.at(n, NODE_KIND)) {
                case T_NOT: return !holds(below, r, base, depth + 1);
                case T_AND: return holdsAll(below, r, base, depth);
                case T_OR: return holdsAny(below, r, base, depth);
                case T_FLOW: return holdsFlow(below, r, base, depth);
                case T_PICK: {
                    clearBound(PICKED);
                    boolean so = holds(below, r, PICKED, depth + 1);
                    if (so) {
                        handOver(n);
                    }
                    return so;
                }
                case T_IF:
                    store.countTest();
                    return isTrue(program.nodes.at(n, NODE_A), base);
                default: {
                    store.countTest();
                    boolean so = isSo(n, r);
                    if (so) {
                        bindSlots(n, r, base);
                    }
                    return so;
                }
            }
        }

        private boolean holdsAll(int first, int r, int base, int depth) {
            int child = first;
            for (int i = 0; i <= MOST_TOKENS && child >= 0; i++) {
                if (!holds(child, r, base, depth + 1)) {
                    return false;
                }
                child = program.nodes.at(child, NODE_NEXT);
            }
            return true;
        }

        private boolean holdsAny(int first, int r, int base, int depth) {
            int child = first;
            for (int i = 0; i <= MOST_TOKENS && child >= 0; i++) {
                if (holds(child, r, base, depth + 1)) {
                    return true;
                }
                unbind(program.nodes.at(child, NODE_MASK), base);
                child = program.nodes.at(child, NODE_NEXT);
            }
            return false;
        }

        /** This POINT first, then those that are not left, the latest first. */
        private boolean holdsFlow(int below, int r, int base, int depth) {
            store.countTest();
            for (int q = r; q >= 0; q--) {
                if (holds(below, q, base, depth + 1)) {
                    return true;
                }
            }
            return false;
        }

        /** Binds what a P binds that is KNOWN AHEAD to be so. */
        private void bindSure(int n, int r, int base, int depth) {
            if (depth > DEEPEST || program.nodes.at(n, NODE_MASK) == 0) {
                return;
            }
            int kind = program.nodes.at(n, NODE_KIND);
            int child = program.nodes.at(n, NODE_FIRST);
            if (kind == T_PICK) {
                clearBound(PICKED);
                bindSure(child, r, PICKED, depth + 1);
                handOver(n);
            } else if (kind == T_AND || kind == T_OR) {
                for (int i = 0; i <= MOST_TOKENS && child >= 0; i++) {
                    boolean binds = kind == T_AND || ahead.known(child, reached.at(r, 0)) == Ahead.ALWAYS;
                    if (binds) {
                        bindSure(child, r, base, depth + 1);
                    }
                    child = kind == T_OR && binds ? NONE : program.nodes.at(child, NODE_NEXT);
                }
            } else {
                bindSlots(n, r, base);
            }
        }

        private void unbind(int bits, int base) {
            for (int k = 0; k < MOST_ARGS && bits != 0; k++) {
                if ((bits >> k & 1) == 1) {
                    bound.put(base + k, Values.NOTHING);
                }
            }
        }

        /** What the parameters of a pick are bound to, the parameters that are told to it are bound to. */
        private void handOver(int n) {
            int from = program.nodes.at(n, NODE_B);
            int count = program.nodes.at(n, NODE_C);
            for (int k = 0; k < count && k < MOST_ARGS; k++) {
                bind(program.lists.at(from + k, LIST_SLOT), 0, bound.at(PICKED + k));
            }
        }

        /** Whether what has no P below it, and is no if, is so. */
        private boolean isSo(int n, int r) {
            switch (program.nodes.at(n, NODE_KIND)) {
                case T_CALL:
                case T_GET:
                case T_SET: {
                    int is = ahead.known(n, reached.at(r, 0));
                    return is == Ahead.ALWAYS || is == Ahead.EITHER && isOfTypes(n, held.at(r * REACHED_WIDTH + 1));
                }
                case T_SELF: return isObject(n, held.at(r * REACHED_WIDTH));
                case T_TARGET: return isObject(n, held.at(r * REACHED_WIDTH + 1));
                case T_ARGS: return areArgs(n, r);
                default: return ahead.known(n, reached.at(r, 0)) == Ahead.ALWAYS;
            }
        }

        /** Binds the parameters of self, target and args that are so. */
        private void bindSlots(int n, int r, int base) {
            int kind = program.nodes.at(n, NODE_KIND);
            int slot = program.nodes.at(n, NODE_A);
            if (kind == T_ARGS) {
                int from = program.nodes.at(n, NODE_B);
                int count = program.nodes.at(n, NODE_C);
                for (int i = 0; i < count; i++) {
                    bind(program.lists.at(from + i, LIST_SLOT), base, held.at(r * REACHED_WIDTH + 2 + i));
                }
            } else if (kind == T_SELF || kind == T_TARGET) {
                bind(slot, base, held.at(r * REACHED_WIDTH + (kind == T_SELF ? 0 : 1)));
            }
        }

        private void bind(int slot, int base, long value) {
            if (slot >= 0 && slot < MOST_ARGS) {
                bound.put(base + slot, value);
            }
        }

        private boolean isOfTypes(int n, long target) {
            int object = Values.number(target);
            return object > 0 && (program.nodes.at(n, NODE_B) >> store.typeOf(object) & 1) == 1;
        }

        private boolean isObject(int n, long value) {
            boolean any = program.nodes.at(n, NODE_A) >= 0;
            return any ? Values.number(value) > 0 : store.isOf(value, program.nodes.at(n, NODE_B));
        }

        private boolean areArgs(int n, int r) {
            int from = program.nodes.at(n, NODE_B);
            int count = program.nodes.at(n, NODE_C);
            if (count != reached.at(r, 1)) {
                return false;
            }
            for (int i = 0; i < count; i++) {
                int type = program.lists.at(from + i, LIST_CLASS);
                if (type >= 0 && !store.isOf(held.at(r * REACHED_WIDTH + 2 + i), type)) {
                    return false;
                }
            }
            return true;
        }

        /** Works the E of an if; what throws is not TRUE. */
        private boolean isTrue(int start, int base) {
            int floor = store.top();
            int pc = start;
            int thrown = 0;
            for (int i = 0; i < MOST_OPS && thrown == 0 && program.code.at(pc, CODE_OP) != OP_END; i++) {
                int op = program.code.at(pc, CODE_OP);
                int a = program.code.at(pc, CODE_A);
                pc++;
                switch (op) {
                    case OP_WHOLE: store.push(Values.whole(a)); break;
                    case OP_NONE: store.push(Values.NOTHING); break;
                    case OP_LOCAL: store.push(bound.at(base + a)); break;
                    case OP_OWN: store.push(store.own(a, owner, program.code.at(pc - 1, CODE_B))); break;
                    case OP_AND:
                    case OP_OR: pc = store.settles(op) ? a : pc; break;
                    default: thrown = store.operate(op, a); break;
                }
            }
            boolean so = thrown == 0 && Values.isTrue(store.pop());
            store.cut(floor);
            return so;
        }
    }

    /** Does a RUN. It is one loop over frames, so that no TEXT makes the calls of this class stand deep. */
    private static final class Machine {
        private static final int ENDED = 0;
        private static final int GOES_ON = 1;
        private static final int FAILED = 2;

        // What is to be done next.
        private static final int DO_CODE = 0;
        private static final int DO_HOLD = 1;
        private static final int DO_REST = 2;
        private static final int DO_GIVE = 3;
        private static final int DO_FAIL = 4;

        // Frames: what waits for a value, or a failure.
        private static final int BODY = 0;
        private static final int POINT = 1;
        private static final int WAITS_BEHIND = 2;
        private static final int MAKES = 3;

        // Columns of bodies, and where their values stand.
        private static final int BODY_PC = 0;
        private static final int BODY_WHERE = 1;
        private static final int BODY_FORM = 2;
        private static final int BODY_PLACE = 3;
        private static final int BODY_OWNER = 4;
        private static final int BODY_FLOOR = 5;
        private static final int BODY_FAILED = 6;
        private static final int AT_SELF = 0;
        private static final int AT_SAVED = 1;
        private static final int AT_ARGS = 2;
        private static final int AT_LOCALS = AT_ARGS + MOST_ARGS;
        private static final int BODY_VALUES = AT_LOCALS + MOST_LOCALS;

        private static final int MOST_FRAMES = (MOST_BODIES + 2) * (4 + 2 * MOST_ADVICE);
        /** Far above what 2000 STEPS can do. */
        private static final int MOST_MOVES = 2000000000;

        private final Program program;
        private final Store store;
        private final Holder holder;
        private final Table frames = new Table(MOST_FRAMES, 2);
        private final Table bodies = new Table(MOST_BODIES + 1, 7);
        private final Values values = new Values((MOST_BODIES + 1) * BODY_VALUES);
        /** The ARGS with which the REST is done. */
        private final Values args = new Values(MOST_ARGS);
        private int task;
        private int nextAdvice;
        private long value;
        private int standing;
        private int steps;
        private int budget;
        private boolean paused;
        private long failed;

        Machine(Program program, Store store, Holder holder) {
            this.program = program;
            this.store = store;
            this.holder = holder;
        }

        int start(boolean woven) {
            store.start();
            holder.start(woven);
            frames.cut(0);
            bodies.cut(0);
            steps = 0;
            failed = Values.NOTHING;
            task = DO_CODE;
            boolean any = program.mainStart >= 0 && program.code.at(program.mainStart, CODE_OP) == OP_STEP;
            standing = any ? GOES_ON : ENDED;
            if (any) {
                pushBody(program.mainStart, IN_MAIN, Values.NOTHING);
            }
            return standing;
        }

        int work(int most) {
            budget = most;
            paused = false;
            for (int i = 0; i < MOST_MOVES && standing == GOES_ON && !paused; i++) {
                switch (task) {
                    case DO_CODE:
                        workOp();
                        break;
                    case DO_HOLD:
                        holder.holdAll();
                        task = DO_REST;
                        nextAdvice = 0;
                        break;
                    case DO_REST:
                        doRest();
                        break;
                    case DO_GIVE:
                        give();
                        break;
                    default:
                        pass();
                        break;
                }
            }
            return standing;
        }

        int standing() {
            return standing;
        }

        int steps() {
            return steps;
        }

        long failedWith() {
            return standing == FAILED ? failed : Values.NOTHING;
        }

        /** Bodies entered and not left; main is none. */
        int entered() {
            return Math.max(0, bodies.size() - 1);
        }

        // ---- frames

        private void pushFrame(int kind, int what) {
            int f = frames.add();
            frames.put(f, 0, kind);
            frames.put(f, 1, what);
        }

        private void popFrame() {
            frames.cut(frames.size() - 1);
        }

        private int latest() {
            return bodies.size() - 1;
        }

        private long valueAt(int i) {
            return values.at((bodies.size() - 1) * BODY_VALUES + i);
        }

        private void putValue(int i, long v) {
            values.put((bodies.size() - 1) * BODY_VALUES + i, v);
        }

        private int pushBody(int start, int where, long self) {
            int b = bodies.add();
            bodies.put(b, BODY_PC, start);
            bodies.put(b, BODY_WHERE, where);
            bodies.put(b, BODY_FLOOR, store.top());
            bodies.put(b, BODY_OWNER, 0);
            bodies.put(b, BODY_FAILED, 0);
            putValue(AT_SELF, self);
            pushFrame(BODY, b);
            return b;
        }

        private void popBody() {
            store.cut(bodies.at(latest(), BODY_FLOOR));
            bodies.cut(latest());
            popFrame();
        }

        private void throwWhole(int n) {
            throwValue(Values.whole(n));
        }

        private void throwValue(long v) {
            value = v;
            task = DO_FAIL;
        }

        private void giveValue(long v) {
            value = v;
            task = DO_GIVE;
        }

        // ---- ops

        private void workOp() {
            int b = latest();
            int pc = bodies.at(b, BODY_PC);
            int op = program.code.at(pc, CODE_OP);
            int a = program.code.at(pc, CODE_A);
            if (op == OP_STEP) {
                step(b, pc);
                return;
            }
            bodies.put(b, BODY_PC, pc + 1);
            switch (op) {
                case OP_WHOLE: store.push(Values.whole(a)); break;
                case OP_NONE: store.push(Values.NOTHING); break;
                case OP_SELF: store.push(valueAt(AT_SELF)); break;
                case OP_LOCAL: store.push(valueAt(AT_LOCALS + a)); break;
                case OP_OWN: store.push(store.own(a, bodies.at(b, BODY_OWNER), program.code.at(pc, CODE_B))); break;
                case OP_KEEP_LOCAL: putValue(AT_LOCALS + a, store.pop()); break;
                case OP_KEEP_OWN:
                    store.putOwn(a, bodies.at(b, BODY_OWNER), program.code.at(pc, CODE_B), store.pop());
                    break;
                case OP_SIGN:
                case OP_NOT:
                case OP_MINUS:
                case OP_TRUTH:
                case OP_IS: {
                    int thrown = store.operate(op, a);
                    if (thrown != 0) {
                        throwWhole(thrown);
                    }
                    break;
                }
                default: workControl(op, a, b); break;
            }
        }

        private void step(int b, int pc) {
            if (budget <= 0) {
                paused = true;
                return;
            }
            budget--;
            steps++;
            bodies.put(b, BODY_PC, pc + 1);
        }

        private void workControl(int op, int a, int b) {
            switch (op) {
                case OP_AND:
                case OP_OR:
                    if (store.settles(op)) {
                        bodies.put(b, BODY_PC, a);
                    }
                    break;
                case OP_UNLESS:
                    if (!Values.isTrue(store.pop())) {
                        bodies.put(b, BODY_PC, a);
                    }
                    break;
                case OP_JUMP: bodies.put(b, BODY_PC, a); break;
                case OP_POP: store.pop(); break;
                case OP_PRINT: store.print(store.pop()); break;
                case OP_THROW: throwValue(store.pop()); break;
                case OP_REACH: reachFromCode(a); break;
                case OP_GO: goOn(a, b); break;
                case OP_RETURN: leaveBody(b, store.pop()); break;
                default: leaveBody(b, Values.NOTHING); break;
            }
        }

        private void popArgs(int count) {
            for (int i = count - 1; i >= 0; i--) {
                args.put(i, store.pop());
            }
        }

        private void reachFromCode(int point) {
            int kind = program.points.at(point, POINT_KIND);
            popArgs(program.points.at(point, POINT_ARGS));
            boolean aims = kind == CALL || kind == GET || kind == SET;
            long target = aims ? store.pop() : Values.NOTHING;
            reach(point, valueAt(AT_SELF), target);
        }

        private void reach(int point, long self, long target) {
            holder.reach(point, self, target, args);
            pushFrame(POINT, 0);
            task = DO_HOLD;
        }

        /** The REST of the around that works this; count is NONE when its own ARGS are meant. */
        private void goOn(int count, int b) {
            if (count >= 0) {
                popArgs(count);
                if (count != holder.args()) {
                    throwWhole(-4);
                    return;
                }
            } else {
                loadArgs();
            }
            nextAdvice = bodies.at(b, BODY_PLACE) + 1;
            task = DO_REST;
        }

        private void loadArgs() {
            for (int i = 0; i < MOST_ARGS; i++) {
                args.put(i, valueAt(AT_ARGS + i));
            }
        }

        // ---- bodies

        private void leaveBody(int b, long returned) {
            int where = bodies.at(b, BODY_WHERE);
            int form = bodies.at(b, BODY_FORM);
            int place = bodies.at(b, BODY_PLACE);
            boolean hadFailed = bodies.at(b, BODY_FAILED) == 1;
            long saved = valueAt(AT_SAVED);
            if (where == IN_ADVICE && form == BEFORE) {
                loadArgs();
            }
            popBody();
            if (where == IN_MAIN) {
                standing = ENDED;
            } else if (where == IN_METHOD || form == AROUND) {
                giveValue(returned);
            } else if (form == BEFORE) {
                nextAdvice = place + 1;
                task = DO_REST;
            } else if (hadFailed) {
                throwValue(saved);
            } else {
                giveValue(saved);
            }
        }

        private void enterMethod(int method, long self) {
            if (entered() >= MOST_BODIES) {
                throwWhole(-7);
                return;
            }
            pushBody(program.methods.at(method, METHOD_START), IN_METHOD, self);
            for (int i = 0; i < MOST_ARGS; i++) {
                putValue(AT_LOCALS + i, args.at(i));
            }
            task = DO_CODE;
        }

        private void enterAdvice(int j, boolean hasFailed) {
            if (entered() >= MOST_BODIES) {
                throwWhole(-7);
                return;
            }
            int a = holder.adviceAt(j);
            int b = pushBody(program.advice.at(a, ADVICE_START), IN_ADVICE, Values.NOTHING);
            bodies.put(b, BODY_FORM, program.advice.at(a, ADVICE_FORM));
            bodies.put(b, BODY_PLACE, j);
            bodies.put(b, BODY_OWNER, holder.ownerOf(program.advice.at(a, ADVICE_ASPECT)));
            bodies.put(b, BODY_FAILED, hasFailed ? 1 : 0);
            putValue(AT_SAVED, value);
            for (int i = 0; i < MOST_ARGS; i++) {
                putValue(AT_ARGS + i, args.at(i));
                putValue(AT_LOCALS + i, holder.boundAt(j, i));
            }
            int given = program.advice.at(a, ADVICE_GIVEN);
            if (given >= 0) {
                putValue(AT_LOCALS + given, value);
            }
            store.addRow(a, holder.reachedPoint());
            task = DO_CODE;
        }

        // ---- the REST of a POINT

        private void doRest() {
            if (nextAdvice >= holder.adviceCount()) {
                act();
                return;
            }
            int form = program.advice.at(holder.adviceAt(nextAdvice), ADVICE_FORM);
            if (form == BEFORE || form == AROUND) {
                enterAdvice(nextAdvice, false);
            } else {
                pushFrame(WAITS_BEHIND, nextAdvice);
                nextAdvice++;
            }
        }

        private void act() {
            int point = holder.reachedPoint();
            switch (program.points.at(point, POINT_KIND)) {
                case CALL: actCall(point); break;
                case RUN: enterMethod(program.points.at(point, POINT_WHICH), holder.target()); break;
                case MAKE: actMake(point); break;
                case GET:
                case SET: actField(point); break;
                default: giveValue(args.at(0)); break;
            }
        }

        private void actCall(int point) {
            int object = Values.number(holder.target());
            int method = program.nearest(program.methods, store.typeOf(object), program.points.at(point, POINT_NAME));
            if (object == 0) {
                throwWhole(-1);
            } else if (method < 0) {
                throwWhole(-3);
            } else if (program.methods.at(method, METHOD_PARAMS) != holder.args()) {
                throwWhole(-4);
            } else {
                reach(program.methods.at(method, METHOD_POINT), holder.target(), holder.target());
            }
        }

        private void actMake(int point) {
            int type = program.points.at(point, POINT_CLASS);
            int init = program.nearest(program.methods, type, Tokens.INIT_NAME);
            int wanted = init < 0 ? 0 : program.methods.at(init, METHOD_PARAMS);
            if (store.objects() >= MOST_OBJECTS) {
                throwWhole(-8);
            } else if (wanted != holder.args()) {
                throwWhole(-4);
            } else {
                long made = Values.thing(store.make(type));
                if (init < 0) {
                    giveValue(made);
                } else {
                    pushFrame(MAKES, Values.number(made));
                    reach(program.methods.at(init, METHOD_POINT), made, made);
                }
            }
        }

        private void actField(int point) {
            int object = Values.number(holder.target());
            int field = program.nearest(program.fields, store.typeOf(object), program.points.at(point, POINT_NAME));
            int slot = program.fields.at(field, FIELD_SLOT);
            if (object == 0) {
                throwWhole(-1);
            } else if (field < 0) {
                throwWhole(-2);
            } else if (program.points.at(point, POINT_KIND) == SET) {
                store.putField(object, slot, args.at(0));
                giveValue(args.at(0));
            } else {
                giveValue(store.field(object, slot));
            }
        }

        // ---- what goes on with a value, or a failure

        private void give() {
            int f = frames.size() - 1;
            int what = frames.at(f, 1);
            switch (frames.at(f, 0)) {
                case POINT:
                    popFrame();
                    holder.leave();
                    break;
                case WAITS_BEHIND:
                    popFrame();
                    goBehind(what, false);
                    break;
                case MAKES:
                    popFrame();
                    value = Values.thing(what);
                    break;
                default:
                    store.push(value);
                    task = DO_CODE;
                    break;
            }
        }

        private void pass() {
            int f = frames.size() - 1;
            switch (frames.at(f, 0)) {
                case POINT:
                    popFrame();
                    holder.leave();
                    break;
                case WAITS_BEHIND: {
                    int j = frames.at(f, 1);
                    popFrame();
                    goBehind(j, true);
                    break;
                }
                case MAKES: popFrame(); break;
                default: failBody(latest()); break;
            }
        }

        /** The BLOCK of a behind, if it wants what the REST has come to; else that goes on at once. */
        private void goBehind(int j, boolean hasFailed) {
            int form = program.advice.at(holder.adviceAt(j), ADVICE_FORM);
            if (form == BEHIND || form == (hasFailed ? BEHIND_FAIL : BEHIND_GIVE)) {
                enterAdvice(j, hasFailed);
            }
        }

        private void failBody(int b) {
            int pc = bodies.at(b, BODY_PC) - 1;
            int handler = NONE;
            for (int t = 0; t < program.tries.size(); t++) {
                if (program.tries.at(t, TRY_FROM) <= pc && pc < program.tries.at(t, TRY_TO)) {
                    handler = program.tries.at(t, TRY_CATCH);
                }
            }
            if (handler >= 0) {
                store.cut(bodies.at(b, BODY_FLOOR));
                store.push(value);
                bodies.put(b, BODY_PC, handler);
                task = DO_CODE;
                return;
            }
            boolean main = bodies.at(b, BODY_WHERE) == IN_MAIN;
            popBody();
            if (main) {
                standing = FAILED;
                failed = value;
            }
        }
    }
}
