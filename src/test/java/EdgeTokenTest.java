/** Terms 1 (TOKENS): which bytes may stand where, how long a TOKEN may be, where its FAULT is, and LINES. */
public final class EdgeTokenTest {
    private static final String[] WORDS = ("and args around aspect bar before behind call catch class each else fail field flow get give go if in "
            + "is let main make method new none not object or order pick print return run self set target throw try under warn while within").split(" ");

    public static void main(String[] args) {
        Checks checks = new Checks("EdgeTokenTest");
        eachByte(checks);
        remarks(checks);
        lines(checks);
        names(checks);
        words(checks);
        wholes(checks);
        patterns(checks);
        signs(checks);
        firstByte(checks);
        checks.end();
    }

    private static boolean isIn(char c, String all) {
        return all.indexOf(c) >= 0;
    }

    private static boolean isPartOfName(char c) {
        return c >= 'a' && c <= 'z' || c >= 'A' && c <= 'Z' || c >= '0' && c <= '9';
    }

    /** Between TOKENS there may be bytes 32, 9, 13, 10, and no other byte. */
    private static void eachByte(Checks checks) {
        for (char c = 0; c <= 255; c++) {
            WeaveHouse house = Checks.fed("main {" + c + "}");
            boolean blank = isIn(c, " \t\r\n");
            boolean fits = isPartOfName(c) || isIn(c, "(-}");
            boolean sign = isIn(c, "=<>+*/%){;,.");
            checks.due("compile with byte " + (int) c, house.compile(), blank ? 0 : fits || sign ? -2 : -1);
            checks.due("place with byte " + (int) c, house.fault(0), blank ? -1 : fits ? 7 : 6);
        }
        checks.dueSound("\t \r\n\n\r main\t\r\n {\n}\r", 0);
        checks.dueSound("main{}", 0);
    }

    /** A REMARK goes up to the next byte 10, or the end, whatever is in it. */
    private static void remarks(Checks checks) {
        checks.dueSound("//", 0);
        checks.dueSound("///", 0);
        checks.dueSound("main//x\n{//y\n}//z", 0);
        checks.dueSound("main { //\u0000\u00ff!\"#class A \r\n}", 0);
        checks.dueFault("main { // }\r }^", 2);
        checks.dueFault("main { // }\n^", 2);
        checks.dueSound("main { // // }\n }", 0);
        checks.dueFault("main { print 6 / ^/ 2; }", 2);
        checks.dueFault("main { print 6///\n^2; }", 2);
        checks.dueOutput("main { print 6//\n/ 2; }", "3");
        checks.dueFault("main { print // 1; }^", 2);
        checks.dueFault("aspect P { before () call ^\"a//b\" { } }", 1);
    }

    /** The LINE is 1 and how many bytes 10 stand before the place. */
    private static void lines(Checks checks) {
        checks.dueFault("^!", 1);
        checks.dueFault("^!\n\n", 1);
        checks.dueFault("\n^!", 1);
        checks.dueFault("\r\r^!", 1);
        checks.dueFault("// a\n// b\n^!", 1);
        checks.dueFault("main {\n\n^", 2);
        checks.dueFault("main {\n\n  \n  ^", 2);
        checks.dueFault("\n".repeat(4999) + "^!", 1);
        checks.dueFault("\n".repeat(2500) + "^!" + "\n".repeat(2499), 1);
        checks.dueFault("\n".repeat(4996) + "main^", 2);
        checks.dueSound("\n".repeat(5000), 0);
    }

    /** NAMES have 1 to 12 letters and digits, the first a letter; no letter, digit stands right behind. */
    private static void names(Checks checks) {
        checks.dueSound("class a { } class Z { }", 0);
        checks.dueSound("class abcdefghijkl{}", 0);
        checks.dueSound("class A23456789012 { }", 0);
        checks.dueFault("class ^abcdefghijklm { }", 1);
        checks.dueFault("class ^abcdefghijkl9 { }", 1);
        checks.dueFault("class ^A234567890123456789012345 { }", 1);
        checks.dueSound("class azAZ09 { }", 0);
        for (char c : "@[`:/_$\u00e4\u00df\u00ff".toCharArray()) {
            checks.dueFault("class a^" + c + " { }", c == '/' ? 2 : 1);
        }
        // upper and lower letters are others, and all twelve count
        checks.dueSound("class abcdefghijkl { } class abcdefghijkL { } class Abcdefghijkl { } class abcdefghijk { }", 0);
        checks.dueFault("class abcdefghijkl { } class ^abcdefghijkl { }", 4);
    }

    private static void words(Checks checks) {
        checks.due("WORDS", WORDS.length, 44);
        for (String word : WORDS) {
            checks.dueFault("class ^" + word + " { }", 2);
            checks.dueSound("class " + word + "x { }", 0);
            checks.dueSound("class " + word + "9 { }", 0);
            checks.dueSound("class x" + word + " { }", 0);
            checks.dueSound("class " + word.toUpperCase() + " { }", 0);
            checks.dueSound("class " + word.substring(0, word.length() - 1) + "0 { }", 0);
        }
        checks.dueSound("class an { } class clas { } class o { } class retur { } class i { }", 0);
    }

    private static void wholes(Checks checks) {
        checks.dueOutput("main { print 0; print 9; print 999999999; print 000000000; print 000000007; print 100000000; }",
                "0 9 999999999 0 7 100000000");
        checks.dueFault("main { print ^0000000000; }", 1);
        checks.dueFault("main { print ^9999999999; }", 1);
        checks.dueFault("main { print ^2147483648; }", 1);
        for (String bad : new String[] {"1a", "1Z", "123456789a", "1print", "0x1", "12345678901234567890"}) {
            checks.dueFault("main { print ^" + bad + "; }", 1);
        }
        checks.dueFault("main { print 1^_; }", 1);
        checks.dueOutput("main { print 1+2-3; }", "0");
    }

    /** A PART is 1 to 12 letters, digits, *; one +, only behind the first; no blanks. */
    private static void patterns(Checks checks) {
        String p = "aspect P { before () call % { } }";
        String part = "abcdefghijkl";
        for (String good : new String[] {"a", "*", "9", "Z", "************", part, part + ".a", "a." + part, part + "." + part, part + "+." + part,
                "0.0", "*.*", "*+.*", "if", "if.else", "class+.new"}) {
            checks.dueSound(p.replace("%", "\"" + good + "\""), 0);
        }
        for (String bad : new String[] {"", " a", "a ", "a .b", "a. b", "a +.b", part + "m", part + "*", part + "m.a", "a." + part + "m", "a.", ".", "..",
                ".a", "+", "+a", "a+b", "a++", "a++.b", "a+.", "a.+", "a.b+", "a.b.c", "a..b", "a-b", "a,b", "a_b", "a\tb", "a\n", "\u00e4", "(a)"}) {
            checks.dueFault(p.replace("%", "^\"" + bad + "\""), 1);
        }
        checks.dueFault("aspect P { before () call ^\"a", 1);
        checks.dueFault("aspect P { before () call ^\"a+", 1);
        checks.dueFault("aspect P { before () call ^\"", 1);
        checks.dueFault("aspect P { before () call ^'a' { } }", 1);
        checks.dueSound("aspect P { before()call\"a\"{} }", 0);
        checks.dueSound("aspect P { warn within\"a\"or within\"b+\"; }", 0);
    }

    /** Each TOKEN is as long as can be. */
    private static void signs(Checks checks) {
        checks.dueOutput("main { let a=1; print a==1; print a!=1; print a<1; print a<=1; print a>1; print a>=1; print a+1; print a-1; print a*2; "
                + "print a/1; print a%2; print(1); print--1; }", "1 0 0 1 0 1 2 0 2 1 1 1 1");
        checks.dueFault("main { print 1 < ^= 2; }", 2);
        checks.dueFault("main { print 1 > ^= 2; }", 2);
        checks.dueFault("main { print 1 ^= = 2; }", 2);
        checks.dueFault("main { print 1 ^! = 2; }", 1);
        checks.dueFault("main { print 1 ^!", 1);
        checks.dueFault("main { let a ^== 1; }", 2);
        checks.dueFault("main { print 1 ==^= 2; }", 2);
        checks.dueFault("main { print 1 ^=< 2; }", 2);
        checks.dueFault("main { print 1 <^> 2; }", 2);
        checks.dueFault("main { print 1 ^&& 2; }", 1);
        checks.dueFault("main { print 1 ^| 2; }", 1);
    }

    /** The first TOKEN that is none counts, if nothing before it is wrong. */
    private static void firstByte(Checks checks) {
        checks.dueFault("^123456789012 # !", 1);
        checks.dueFault("main { print ^1x", 1);
        checks.dueFault("main { } ^} 1x", 2);
        checks.dueFault("^x #", 2);
        checks.dueFault("class ^#", 1);
        checks.dueFault("main { // #\n ^# }", 1);
    }
}
