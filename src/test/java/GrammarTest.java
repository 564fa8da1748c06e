/** Promises 3 to 6: the text format, and the codes, positions and lines of its errors. */
public final class GrammarTest {
    private static final Check CHECK = new Check();
    private static final String HEAD = "yard kerf 0 keep 1";

    public static void main(String[] args) {
        goodTexts();
        tokens();
        head();
        kinds();
        rods();
        orders();
        patterns();
        CHECK.end();
    }

    private static void good(String text, int rods) {
        RodYard x = new RodYard();
        Yards.put(x, text);
        try {
            CHECK.same(text, x.load(text.length()), rods);
        } catch (IllegalArgumentException e) {
            CHECK.same(text + " has error " + x.parseError() + " at " + x.errorPosition(), 1, 0);
        }
        CHECK.same(text + ": code", x.parseError(), 0);
        CHECK.same(text + ": position", x.errorPosition(), -1);
        CHECK.same(text + ": line", x.errorLine(), -1);
    }

    private static void bad(String text, int code, int position, int line) {
        RodYard x = new RodYard();
        Yards.put(x, text);
        CHECK.fails(text, Check.ARGUMENT, () -> x.load(text.length()));
        CHECK.same(text + ": code", x.parseError(), code);
        CHECK.same(text + ": position", x.errorPosition(), position);
        CHECK.same(text + ": line", x.errorLine(), line);
        CHECK.fails(text + ": no yard", Check.STATE, x::round);
    }

    /** A line that is wrong at its byte number at (a line's first byte is 0). */
    private static void badLine(String line, int code, int at) {
        bad(HEAD + ";" + line, code, HEAD.length() + 1 + at, 1);
    }

    private static void goodTexts() {
        good(HEAD, 0);
        good("yard kerf 9 keep 200", 0);
        good(" yard  kerf 009 keep 001 ", 0);
        good("yard kerf0keep1;kind10 1;rods0 9", 9);
        good("yard kerf 0keep 1 ; kind 200 99 ; rods 0 1 ; rods 0 2 ; order 200 9 99 99 ; pattern 200 ", 3);
        good(HEAD + ";kind 1 1;rods 0 9;rods 0 9;rods 0 6", 24);
        good(HEAD + ";kind 1 1;kind 1 2;kind 2 1;kind 2 2;rods 3 1", 1);
        good(HEAD + ";order 1 1 0 0;pattern 1 2 3 4 5 6;pattern 6 5 4 3 2 1", 0);
        RodYard x = Yards.of("yard kerf 007 keep 020;kind 050 03;kind 8 4;rods 01 002;rods 0 1;order 012 03 04 05;"
                + "pattern 007 08 9");
        CHECK.same("KERF", x.setting(0), 7);
        CHECK.same("KEEP", x.setting(1), 20);
        CHECK.same("LENGTH", x.kind(0, false), 50);
        CHECK.same("PRICE", x.kind(0, true), 3);
        CHECK.same("kind of rod 0", x.rod(0, 0), 1);
        CHECK.same("kind of rod 2", x.rod(2, 0), 0);
        CHECK.same("length of rod 1", x.rod(1, 1), 8);
        CHECK.same("length of rod 2", x.rod(2, 1), 50);
        for (int what = 0; what < 4; what++) {
            CHECK.same("order " + what, x.order(0, what), new int[] {12, 3, 4, 5}[what]);
        }
        for (int k = 0; k < 3; k++) {
            CHECK.same("pattern length " + k, x.patternLength(0, k), 7 + k);
        }
    }

    private static void tokens() {
        bad("", 1, 0, 0);
        bad("   ", 1, 3, 0);
        bad("Yard", 1, 0, 0);
        bad("-", 1, 0, 0);
        bad(";", 1, 0, 0);
        bad("\tyard", 1, 0, 0);
        bad("yard\nkerf 0 keep 1", 1, 4, 0);
        bad("yardyard kerf 0 keep 1", 1, 0, 0);
        bad("yardyardy kerf 0 keep 1", 1, 0, 0);
        bad("yar kerf 0 keep 1", 1, 0, 0);
        bad("7", 1, 0, 0);
        bad("yard {kerf", 1, 5, 0);
        bad("yard `kerf", 1, 5, 0);
        bad("yard kerf /", 1, 10, 0);
        bad("yard kerf :", 1, 10, 0);
        bad("yard kerf 0005 keep 1", 1, 10, 0);
        bad("yard kerf 4294967296 keep 1", 1, 10, 0);
        bad("yard kerf 0 keep 1 ; ", 1, 21, 1);
        bad("yard kerf 0 keep 1;;", 1, 19, 1);
        bad("yard kerf 0 keep 1;patterns 1", 1, 19, 1);
        bad("yard kerf 0 keep 1;abcdefghi 1", 1, 19, 1);
        bad("yard kerf 0 keep 1;yard", 1, 19, 1);
        bad("yard kerf 0 keep 1;kindz 1 1", 1, 19, 1);
        bad("yard kerf 0 keep 1;kinda 1 1", 1, 19, 1);
        bad("yard kerf 0 keep 1;lind 1 1", 1, 19, 1);
        bad("zard kerf 0 keep 1", 1, 0, 0);
        bad(";;yard", 1, 0, 0);
        bad("yard kerf 0 keep 1;5", 1, 19, 1);
        bad("yard kerf 0 keep 1 pattern 1", 1, 19, 0);
        bad("yard kerf 0 keep 1;pattern 1;pattern 1 ;pattern a", 1, 48, 3);
    }

    private static void head() {
        bad("yard", 1, 4, 0);
        bad("yard keep 0 kerf 1", 1, 5, 0);
        bad("yard kerf", 1, 9, 0);
        bad("yard kerf;", 1, 9, 0);
        bad("yard kerf keep 1", 1, 10, 0);
        bad("yard kerf 10 keep 1", 2, 10, 0);
        bad("yard kerf 999 keep 1", 2, 10, 0);
        bad("yard kerf 0", 1, 11, 0);
        bad("yard kerf 0 0 keep 1", 1, 12, 0);
        bad("yard kerf 0 keep", 1, 16, 0);
        bad("yard kerf 0 keep   ", 1, 19, 0);
        bad("yard kerf 0 keep 0", 2, 17, 0);
        bad("yard kerf 0 keep 201", 2, 17, 0);
        bad("yard kerf 0 keep ;", 1, 17, 0);
        bad("yard kerf 0 keep 1 1", 1, 19, 0);
    }

    private static void kinds() {
        badLine("kind", 1, 4);
        badLine("kind 1", 1, 6);
        badLine("kind 1;", 1, 6);
        badLine("kind 0 1", 2, 5);
        badLine("kind 201 1", 2, 5);
        badLine("kind 1000 1", 1, 5);
        badLine("kind a 1", 1, 5);
        badLine("kind 1 0", 2, 7);
        badLine("kind 1 100", 2, 7);
        badLine("kind 1 1 1", 1, 9);
        bad(HEAD + ";kind 7 5;kind 7 6;kind 8 5;kind 07 5", 3, 54, 4);
        bad(HEAD + ";kind 7 5;kind 7 05;kind", 3, 35, 2);
        bad(HEAD + ";kind 1 1;kind 2 1;kind 3 1;kind 4 1;kind 0 0", 4, 55, 5);
        bad(HEAD + ";kind 1 1;kind 2 1;kind 3 1;kind 4 1;kinds", 1, 55, 5);
    }

    private static void rods() {
        badLine("rods", 1, 4);
        badLine("rods 0 1", 2, 5);
        badLine("rods x 1", 1, 5);
        String kinds = HEAD + ";kind 5 5;kind 6 6";
        int at = kinds.length() + 1;
        bad(kinds + ";rods 2 1", 2, at + 5, 3);
        bad(kinds + ";rods 1", 1, at + 6, 3);
        bad(kinds + ";rods 1 0", 2, at + 7, 3);
        bad(kinds + ";rods 1 10", 2, at + 7, 3);
        bad(kinds + ";rods 1 1 1", 1, at + 9, 3);
        bad(kinds + ";rods 0 9;rods 1 9;rods 0 6;rods 1 1", 4, at + 34, 6);
        bad(kinds + ";rods 0 9;rods 1 9;rods 0 7", 4, at + 25, 5);
        // Of several errors of one token the smallest code is told.
        bad(kinds + ";rods 0 9;rods 1 9;rods 0 10", 2, at + 25, 5);
        bad(kinds + ";rods 0 9;rods 1 9;rods 0 0010", 1, at + 25, 5);
        // The kind must be of an earlier line.
        bad(HEAD + ";rods 0 1;kind 5 5", 2, 24, 1);
    }

    private static void orders() {
        badLine("order", 1, 5);
        badLine("order 0 1 1 1", 2, 6);
        badLine("order 201 1 1 1", 2, 6);
        badLine("order 1 0 1 1", 2, 8);
        badLine("order 1 10 1 1", 2, 8);
        badLine("order 1 1 100 1", 2, 10);
        badLine("order 1 1 1 100", 2, 12);
        badLine("order 1 1 1", 1, 11);
        badLine("order 1 1 1 ;", 1, 12);
        badLine("order 1 1 1 1 1", 1, 14);
        badLine("order 1 1 1 kind", 1, 12);
        StringBuilder text = new StringBuilder(HEAD);
        for (int i = 0; i < 12; i++) {
            text.append(";order 1 1 1 1");
        }
        good(text.toString(), 0);
        bad(text + ";order", 4, text.length() + 1, 13);
        bad(text + ";order 0 1 1 1", 4, text.length() + 1, 13);
    }

    private static void patterns() {
        badLine("pattern", 1, 7);
        badLine("pattern ;", 1, 8);
        badLine("pattern a", 1, 8);
        badLine("pattern 0", 2, 8);
        badLine("pattern 201", 2, 8);
        badLine("pattern 1 2 0", 2, 12);
        badLine("pattern 1 2 1234", 1, 12);
        badLine("pattern 1 2 order", 1, 12);
        badLine("pattern 1 2 3 4 5 6 7", 4, 20);
        badLine("pattern 1 2 3 4 5 6 0", 2, 20);
        badLine("pattern 1 2 3 4 5 6 201", 2, 20);
        badLine("pattern 1 2 3 4 5 6 0007", 1, 20);
        badLine("pattern 1 2 3 4 5 6 a", 1, 20);
        StringBuilder text = new StringBuilder(HEAD);
        for (int i = 0; i < 6; i++) {
            text.append(";pattern 1");
        }
        good(text.toString(), 0);
        bad(text + ";pattern", 4, text.length() + 1, 7);
        bad(text + ";pattern 0", 4, text.length() + 1, 7);
    }
}
