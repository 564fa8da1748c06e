import java.util.Arrays;

/** Promises 1 to 7 and section 6: each sentence that names a boundary has a test of its own, below its words. */
public final class TextEdgesTest {
    private static final Check CHECK = new Check();
    private static final String HEAD = "yard kerf 0 keep 1";
    private static final int BLANKS = 0x20202020;

    /** Reads back the number that a text told. */
    private interface Reader {
        int read(RodYard yard);
    }

    public static void main(String[] args) {
        newObject();
        bytesInOrder();
        appendAnswers();
        sevenHundredBytes();
        firstBytesAlone();
        eachNumberOfBytes();
        emptyText();
        loadOutOfBounds();
        loadForgets();
        loadReplaces();
        failedLoad();
        failedFirstLoad();
        latestLoad();
        bytesOfTokens();
        endOfWords();
        endOfNumbers();
        blanks();
        lettersOfWords();
        wordsOfTheGrammar();
        digitsOfNumbers();
        leadingZeros();
        boundsOfHead();
        boundsOfKinds();
        boundsOfRods();
        boundsOfOrders();
        boundsOfPatterns();
        earlierKinds();
        fullYard();
        fifthKind();
        twentyFifthRod();
        thirteenthOrder();
        seventhPattern();
        seventhLength();
        sameKind();
        smallestCode();
        firstToken();
        endsOfText();
        lines();
        CHECK.end();
    }

    private static RodYard put(String text) {
        RodYard x = new RodYard();
        Yards.put(x, text);
        return x;
    }

    private static void good(String text) {
        RodYard x = put(text);
        try {
            x.load(text.length());
        } catch (IllegalArgumentException e) {
            CHECK.same(text + ": position of an error", x.errorPosition(), -1);
        }
        CHECK.same(text + ": code", x.parseError(), 0);
    }

    private static void bad(String text, int code, int position, int line) {
        RodYard x = put(text);
        CHECK.fails(text, Check.ARGUMENT, () -> x.load(text.length()));
        CHECK.same(text + ": code", x.parseError(), code);
        CHECK.same(text + ": position", x.errorPosition(), position);
        CHECK.same(text + ": line", x.errorLine(), line);
    }

    // ---- promises 1, 2 and 7

    /** "Creates an object without a yard and with an empty input buffer." */
    private static void newObject() {
        RodYard x = new RodYard();
        CHECK.same("1: buffered", x.buffered(), 0);
        Snapshot.refused(CHECK, "1: load(1)", Check.INDEX, x, () -> x.load(1));
        InputTest.noYard(CHECK, "1: without a yard", x);
        CHECK.same("1: the first append", x.append(BLANKS, BLANKS, BLANKS, BLANKS, BLANKS), 20);
    }

    /** "Appends twenty bytes [..]: the four bytes of each argument in order, the most significant byte first." */
    private static void bytesInOrder() {
        for (int at = 0; at < 20; at++) {
            int[] words = new int[5];
            Arrays.fill(words, BLANKS);
            int shift = 24 - at % 4 * 8;
            words[at / 4] = BLANKS & ~(255 << shift) | 0xc1 << shift;
            RodYard x = new RodYard();
            x.append(BLANKS, BLANKS, BLANKS, BLANKS, BLANKS);
            CHECK.same("2: append", x.append(words[0], words[1], words[2], words[3], words[4]), 40);
            CHECK.fails("2: byte " + at, Check.ARGUMENT, () -> x.load(40));
            CHECK.same("2: byte " + at + " is at", x.errorPosition(), 20 + at);
        }
    }

    /** "Returns the number of bytes in the buffer; NONE if there would be more than 700", "nothing is appended". */
    private static void appendAnswers() {
        RodYard x = new RodYard();
        for (int bytes = 20; bytes <= 680; bytes += 20) {
            CHECK.same("2: append", x.append(BLANKS, BLANKS, BLANKS, BLANKS, BLANKS), bytes);
            CHECK.same("7: buffered", x.buffered(), bytes);
        }
        CHECK.same("2: the last that is taken", x.append(BLANKS, BLANKS, BLANKS, BLANKS, 0x20202041), 700);
        for (int i = 0; i < 2; i++) {
            Snapshot.asked(CHECK, "2: the first that is refused", -1, x, () -> x.append(0, -1, 0, -1, 0));
        }
        CHECK.fails("2: load(700)", Check.ARGUMENT, () -> x.load(700));
        CHECK.same("2: the bytes ahead stay", x.errorPosition(), 699);
        CHECK.same("7: buffered behind load", x.buffered(), 0);
        CHECK.same("2: append to the emptied buffer", x.append(0, 0, 0, 0, 0), 20);
    }

    /** "The input buffer holds at most 700 bytes." */
    private static void sevenHundredBytes() {
        StringBuilder text = new StringBuilder(HEAD);
        while (text.length() < 687) {
            text.append(' ');
        }
        text.append(";kind 200 99;");
        CHECK.same("bytes of the text", text.length(), 700);
        bad(text.toString(), 1, 700, 2);
        text.setLength(699);
        good(text.toString());
        RodYard x = Yards.of(text.insert(0, ' ').toString());
        CHECK.same("6: the 699th and 700th byte of 700", x.kind(0, true), 99);
    }

    // ---- promise 3

    /** "Parses the first n bytes of the input buffer and empties the buffer, even if the parse fails." */
    private static void firstBytesAlone() {
        String text = "yard kerf 0 keep 123;A";
        for (int n = 0; n <= 40; n++) {
            RodYard x = put(text);
            int bytes = n;
            if (n >= 18 && n <= 20) {
                CHECK.same("3: load(" + n + ")", x.load(n), 0);
                CHECK.same("3: KEEP of " + n + " bytes", x.setting(1), n == 18 ? 1 : n == 19 ? 12 : 123);
            } else {
                CHECK.fails("3: load(" + n + ")", Check.ARGUMENT, () -> x.load(bytes));
            }
            CHECK.same("3: buffered behind load(" + n + ")", x.buffered(), 0);
        }
        bad("yard kerf 0 keep 123;", 1, 21, 1);
        bad(text, 1, 21, 1);
    }

    /** "Parses the first n bytes": what stands behind them does not matter, nor what was there earlier. */
    private static void eachNumberOfBytes() {
        String text = "yard kerf 3 keep 20;kind 100 77;rods 0 5;order 40 3 10 11;pattern 40 25 33;rods 0 7";
        for (int n = 0; n <= text.length(); n++) {
            RodYard x = put(text);
            RodYard y = put(text.substring(0, n));
            CHECK.same("3: load(" + n + ")", answerOfLoad(x, n), answerOfLoad(y, n));
            CHECK.sameText("3: behind load(" + n + ")", Snapshot.of(x), Snapshot.of(y));
            // The buffer is emptied, but its bytes were there.
            Yards.put(x, text.substring(0, n));
            CHECK.same("3: load(" + n + ") again", answerOfLoad(x, n), answerOfLoad(put(text.substring(0, n)), n));
            CHECK.sameText("3: behind load(" + n + ") again", Snapshot.of(x), Snapshot.of(y));
        }
    }

    /** The number of rods, or -2 if the text has an error. */
    private static int answerOfLoad(RodYard x, int n) {
        try {
            return x.load(n);
        } catch (IllegalArgumentException e) {
            return -2;
        }
    }

    /** "1: [..] the end of the text where a line is not complete": of no bytes at all. */
    private static void emptyText() {
        RodYard x = new RodYard();
        CHECK.fails("3: load(0) of the empty buffer", Check.ARGUMENT, () -> x.load(0));
        CHECK.same("4: no bytes", x.parseError(), 1);
        CHECK.same("5: no bytes", x.errorPosition(), 0);
        CHECK.same("6: no bytes", x.errorLine(), 0);
        RodYard y = put(HEAD);
        CHECK.fails("3: load(0) of a buffer", Check.ARGUMENT, () -> y.load(0));
        CHECK.same("5: none of the bytes", y.errorPosition(), 0);
        CHECK.same("7: none of the bytes stays", y.buffered(), 0);
    }

    /** "if n is negative or greater than the number of bytes in the buffer; the buffer, parseError() [..] stay" */
    private static void loadOutOfBounds() {
        RodYard x = put("yard kerf 10 keep 1 ");
        int[] wrong = {-1, 21, 700, 701, Integer.MIN_VALUE, Integer.MAX_VALUE};
        for (int n : wrong) {
            Snapshot.refused(CHECK, "3: load(" + n + ") ahead of any", Check.INDEX, x, () -> x.load(n));
        }
        CHECK.fails("3: load(20), a text with an error", Check.ARGUMENT, () -> x.load(20));
        CHECK.same("4: code", x.parseError(), 2);
        Yards.put(x, HEAD);
        for (int n : wrong) {
            Snapshot.refused(CHECK, "3: load(" + n + ") behind a failure", Check.INDEX, x, () -> x.load(n));
        }
        CHECK.same("3: load(20) of bytes that stayed", x.load(20), 0);
        Yards.put(x, "A");
        for (int n : wrong) {
            Snapshot.refused(CHECK, "3: load(" + n + ") behind success", Check.INDEX, x, () -> x.load(n));
        }
        CHECK.same("4: code", x.parseError(), 0);
    }

    /** "the round and all accounts are 0, [..] nothing can be undone, and no state is saved" */
    private static void loadForgets() {
        String text = "yard kerf 2 keep 20;kind 100 3;rods 0 2;order 40 2 10 0;order 30 1 9 0";
        String fresh = Snapshot.of(Yards.of(text));
        RodYard x = Yards.of(text);
        x.cutPiece(0, 40);
        x.cutPiece(0, 7);
        x.endRound();
        x.cutPiece(1, 40);
        x.scrap(1);
        x.buy(0);
        x.addOrder(7, 1, 9, 0);
        x.setSetting(0, 5);
        x.cancel(1);
        x.save(0);
        x.save(1);
        Yards.put(x, text);
        CHECK.same("3: load answers the number of rods", x.load(text.length()), 2);
        CHECK.sameText("3: the same as a new object with this text", Snapshot.of(x), fresh);
        CHECK.fails("3: undo behind load", Check.STATE, x::undo);
        CHECK.fails("3: restore(0) behind load", Check.STATE, () -> x.restore(0));
        CHECK.fails("3: restore(1) behind load", Check.STATE, () -> x.restore(1));
        // What was there ahead must not show in what comes later.
        CHECK.same("3: buy behind load", x.buy(0), 2);
        CHECK.same("3: the new rod is whole", x.rod(2, 1), 100);
        CHECK.same("3: the new rod is in stock", x.rod(2, 2), 0);
        CHECK.same("3: the new rod has no pieces", x.rod(2, 3), 0);
        CHECK.same("3: the new rod is not cut", x.rod(2, 4), 0);
    }

    /** "On success the yard replaces the previous one": the fullest by the least, and by others. */
    private static void loadReplaces() {
        String[] texts = {HEAD, "yard kerf 9 keep 200;kind 7 8;rods 0 1;order 6 5 4 3;pattern 2", Yards.FULL,
            HEAD + ";kind 30 1;rods 0 2;order 1 3 0 0;order 3 1 0 0;pattern 3 1;pattern 5 5"};
        for (String text : texts) {
            RodYard x = Yards.of(Yards.FULL);
            x.fill(3);
            x.save(0);
            Yards.put(x, text);
            RodYard fresh = Yards.of(text);
            CHECK.same("3: the number of rods", x.load(text.length()), fresh.count(1));
            CHECK.sameText("3: behind another yard", Snapshot.of(x), Snapshot.of(fresh));
            CHECK.sameText("3: questions behind another yard", Snapshot.questions(x), Snapshot.questions(fresh));
            CHECK.same("48: fill behind another yard", x.fill(3), fresh.fill(3));
            CHECK.sameText("3: filled behind another yard", Snapshot.of(x), Snapshot.of(fresh));
        }
    }

    /** "Throws IllegalArgumentException if the text has an error; the previous yard stays." */
    private static void failedLoad() {
        String[] wrong = {"", "A", "yard kerf 1 keep 10;kind 5 100", "yard kerf 1 keep 10;kind 5 5;rods 0 9;kind 5 5",
            "yard kerf 1 keep 10;kind 5 5;rods 0 9;order 1 1 1 1;order 2 2 2 2;order 3 3 3 3;pattern 1 2 3 4 5 6 7"};
        for (String text : wrong) {
            RodYard x = Yards.of("yard kerf 2 keep 20;kind 100 3;rods 0 2;order 40 2 10 0;pattern 40 40");
            x.cutPiece(0, 40);
            x.endRound();
            x.save(1);
            x.cutPiece(0, 7);
            x.writeRods();
            String ahead = Snapshot.ofYard(x);
            Yards.put(x, text);
            CHECK.fails("3: a wrong text", Check.ARGUMENT, () -> x.load(text.length()));
            CHECK.sameText("3: the yard behind a wrong text", Snapshot.ofYard(x), ahead);
            CHECK.same("3: undo behind a wrong text", x.undo(), 2);
            CHECK.same("3: restore behind a wrong text", x.restore(1), 1);
        }
    }

    /** "IllegalStateException is thrown if there is no yard (no text was loaded)." */
    private static void failedFirstLoad() {
        RodYard x = put("yard kerf 0 keep 0;kind 5 5;rods 0 2");
        CHECK.fails("3: a wrong first text", Check.ARGUMENT, () -> x.load(36));
        InputTest.noYard(CHECK, "7: behind a wrong first text", x);
        CHECK.same("41: cuts without a yard", x.cuts(), 0);
        CHECK.same("56: undoable without a yard", x.undoable(), 0);
    }

    // ---- promises 4 to 6

    /** "of the latest call of load that did not throw IndexOutOfBoundsException"; "NONE if parseError() is 0" */
    private static void latestLoad() {
        RodYard x = new RodYard();
        errorIs("there was none", x, 0, -1, -1);
        CHECK.fails("3: load(1)", Check.INDEX, () -> x.load(1));
        errorIs("it threw IndexOutOfBoundsException", x, 0, -1, -1);
        for (int code = 1; code <= 4; code++) {
            String line = new String[] {";;", ";kind 0 1", ";kind 1 1;kind 1 1", ";pattern 1 1 1 1 1 1 1"}[code - 1];
            int at = new int[] {19, 24, 35, 39}[code - 1];
            int number = code == 3 ? 2 : 1;
            Yards.put(x, HEAD + line);
            CHECK.fails("3: " + line, Check.ARGUMENT, () -> x.load(HEAD.length() + line.length()));
            errorIs(line, x, code, at, number);
            CHECK.fails("3: load(1) of the emptied buffer", Check.INDEX, () -> x.load(1));
            errorIs(line + ", and IndexOutOfBoundsException", x, code, at, number);
            Yards.put(x, HEAD);
            x.load(HEAD.length());
            errorIs("success", x, 0, -1, -1);
        }
    }

    private static void errorIs(String when, RodYard x, int code, int position, int line) {
        CHECK.same("4: " + when, x.parseError(), code);
        CHECK.same("5: " + when, x.errorPosition(), position);
        CHECK.same("6: " + when, x.errorLine(), line);
    }

    // ---- section 6: tokens

    /** "1: a byte that starts no token"; "Tokens are words [..], numbers [..] and the semicolon." */
    private static void bytesOfTokens() {
        for (int b = 0; b < 256; b++) {
            String number = "yard kerf " + (char) b + " keep 1";
            if (b >= '0' && b <= '9') {
                CHECK.same("6: digit " + b, Yards.of(number).setting(0), b - '0');
            } else {
                bad(number, 1, b == ' ' ? 12 : 10, 0);
            }
            String semicolon = HEAD + (char) b + "kind 5 5";
            if (b == ';') {
                good(semicolon);
            } else {
                // A digit goes on with the number ahead, and a blank ends it.
                bad(semicolon, 1, b >= '0' && b <= '9' || b == ' ' ? 19 : 18, 0);
            }
        }
    }

    /** "A run of letters ends at the first byte that is not a lower-case letter." */
    private static void endOfWords() {
        for (int b = 0; b < 256; b++) {
            String text = "yard" + (char) b + "kerf 0 keep 1";
            if (b == ' ') {
                good(text);
            } else {
                bad(text, 1, b >= 'a' && b <= 'z' ? 0 : 4, 0);
            }
        }
    }

    /** "a run of digits ends at the first byte that is not a digit" */
    private static void endOfNumbers() {
        for (int b = 0; b < 256; b++) {
            String text = "yard kerf 0" + (char) b + "keep 1";
            if (b >= '0' && b <= '9') {
                CHECK.same("6: " + text, Yards.of(text).setting(0), b - '0');
            } else if (b == ' ') {
                good(text);
            } else {
                bad(text, 1, 11, 0);
            }
        }
        good("yard kerf 0keep 1");
        good("yard kerf0keep1;kind1 1;rods0 1;order1 1 1 1;pattern1 1");
    }

    /** "Blanks (byte 32) only separate tokens." */
    private static void blanks() {
        good("   yard   kerf   0   keep   1   ;   kind   5   5   ");
        good(HEAD + ";kind 5 5;rods 0 1");
        bad("ya rd kerf 0 keep 1", 1, 0, 0);
        bad("yard kerf 0 keep 1;kind 5 5;rods 0 1 2", 1, 37, 2);
        bad("yard kerf 0 keep 1;kind 55", 1, 26, 1);
        bad("yardkerf 0 keep 1", 1, 0, 0);
    }

    /** "words (1 to 8 lower-case letters)"; "1: [..] a word of 9 or more letters" */
    private static void lettersOfWords() {
        String letters = "abcdefghijkl";
        for (int n = 1; n <= letters.length(); n++) {
            String word = letters.substring(0, n);
            bad(word + " 1", 1, 0, 0);
            bad(HEAD + ";" + word + " 1", 1, 19, 1);
        }
        bad(HEAD + ";patternpattern 1", 1, 19, 1);
        bad(HEAD + ";patterns 1", 1, 19, 1);
        bad(HEAD + ";patter 1", 1, 19, 1);
    }

    /** "The grammar, with literals in quotes": each letter of each of them. */
    private static void wordsOfTheGrammar() {
        String text = HEAD + ";kind 5 5;rods 0 1;order 1 1 1 1;pattern 1";
        good(text);
        for (String word : new String[] {"yard", "kerf", "keep", "kind", "rods", "order", "pattern"}) {
            int at = text.indexOf(word);
            String ahead = text.substring(0, at);
            String behind = text.substring(at + word.length());
            int line = ahead.replaceAll("[^;]", "").length();
            for (int i = 0; i < word.length(); i++) {
                String own = word.substring(i, i + 1);
                for (String letter : new String[] {"", own.equals("a") ? "b" : "a", "z", own + own}) {
                    bad(ahead + word.substring(0, i) + letter + word.substring(i + 1) + behind, 1, at, line);
                }
            }
            String upper = ahead + word.substring(0, 1).toUpperCase() + word.substring(1) + behind;
            bad(upper, 1, at, line);
            bad(ahead + word + "s" + behind, 1, at, line);
        }
    }

    /** "numbers (1 to 3 digits)"; "1: [..] a number of 4 or more digits" */
    private static void digitsOfNumbers() {
        String digits = "00000000000000000000";
        for (int n = 1; n <= digits.length(); n++) {
            String text = "yard kerf " + digits.substring(0, n) + " keep 1";
            if (n <= 3) {
                CHECK.same(text, Yards.of(text).setting(0), 0);
            } else {
                bad(text, 1, 10, 0);
            }
        }
        bad("yard kerf 0001 keep 1", 1, 10, 0);
        bad("yard kerf 0 keep 9999", 1, 17, 0);
        bad("yard kerf 0 keep 999", 2, 17, 0);
        // As a number of the machine this would be 1.
        bad("yard kerf 0 keep 4294967297", 1, 17, 0);
    }

    /** "leading zeros do not matter" */
    private static void leadingZeros() {
        RodYard x = Yards.of("yard kerf 008 keep 09;kind 011 001;kind 012 02;rods 01 009;order 007 08 010 001;"
                + "pattern 099");
        CHECK.same("6: KERF 008", x.setting(0), 8);
        CHECK.same("6: KEEP 09", x.setting(1), 9);
        CHECK.same("6: LENGTH 011", x.kind(0, false), 11);
        CHECK.same("6: PRICE 02", x.kind(1, true), 2);
        CHECK.same("6: KIND 01", x.rod(8, 0), 1);
        CHECK.same("6: COUNT 009", x.count(1), 9);
        CHECK.same("6: COUNT 08", x.order(0, 1), 8);
        CHECK.same("6: VALUE 010", x.order(0, 2), 10);
        CHECK.same("6: DUE 001", x.order(0, 3), 1);
        CHECK.same("6: LENGTH 099", x.patternLength(0, 0), 99);
        bad("yard kerf 010 keep 1", 2, 10, 0);
        bad("yard kerf 0 keep 000", 2, 17, 0);
    }

    // ---- section 6: "2: a number out of its bounds."

    private static void bounds(String what, String ahead, String behind, int least, int greatest, Reader reader) {
        int line = 0;
        for (int i = 0; i < ahead.length(); i++) {
            line += ahead.charAt(i) == ';' ? 1 : 0;
        }
        for (int value = 0; value <= 999; value++) {
            String text = ahead + value + behind;
            if (value == least || value == greatest) {
                CHECK.same("6: " + what + ' ' + value, reader.read(Yards.of(text)), value);
            } else if (value == least - 1 || value == greatest + 1 || value == 999) {
                bad(text, 2, ahead.length(), line);
            }
        }
        bad(ahead + "-1" + behind, 1, ahead.length(), line);
        bad(ahead + "1000" + behind, 1, ahead.length(), line);
        bad(ahead + 'x' + behind, 1, ahead.length(), line);
    }

    /** "KERF is 0 to 9, KEEP 1 to 200" */
    private static void boundsOfHead() {
        bounds("KERF", "yard kerf ", " keep 1", 0, 9, x -> x.setting(0));
        bounds("KEEP", "yard kerf 0 keep ", "", 1, 200, x -> x.setting(1));
    }

    /** "LENGTH 1 to 200, PRICE 1 to 99" */
    private static void boundsOfKinds() {
        bounds("LENGTH of a kind", HEAD + ";kind ", " 7", 1, 200, x -> x.kind(0, false));
        bounds("PRICE", HEAD + ";kind 7 ", "", 1, 99, x -> x.kind(0, true));
    }

    /** "KIND the number of an earlier kind line, from 0, COUNT 1 to 9" */
    private static void boundsOfRods() {
        bounds("KIND of one", HEAD + ";kind 7 7;rods ", " 1", 0, 0, x -> x.rod(0, 0));
        bounds("KIND of three", HEAD + ";kind 7 7;kind 8 8;kind 9 9;rods ", " 1", 0, 2, x -> x.rod(0, 0));
        bounds("KIND of four", HEAD + ";kind 7 7;kind 8 8;kind 9 9;kind 1 1;rods ", " 1", 0, 3, x -> x.rod(0, 0));
        bounds("COUNT of rods", HEAD + ";kind 7 7;rods 0 ", "", 1, 9, x -> x.count(1));
    }

    /** "LENGTH 1 to 200", "COUNT 1 to 9, VALUE 0 to 99, DUE 0 to 99" */
    private static void boundsOfOrders() {
        bounds("LENGTH of an order", HEAD + ";order ", " 7 7 7", 1, 200, x -> x.order(0, 0));
        bounds("COUNT of an order", HEAD + ";order 7 ", " 7 7", 1, 9, x -> x.order(0, 1));
        bounds("VALUE", HEAD + ";order 7 7 ", " 7", 0, 99, x -> x.order(0, 2));
        bounds("DUE", HEAD + ";order 7 7 7 ", "", 0, 99, x -> x.order(0, 3));
    }

    /** "LENGTH 1 to 200": each one of a pattern. */
    private static void boundsOfPatterns() {
        for (int k = 0; k < 6; k++) {
            int last = k;
            bounds("LENGTH " + k + " of a pattern", HEAD + ";pattern " + "7 7 7 7 7 ".substring(0, 2 * k), "", 1, 200,
                    x -> x.patternLength(0, last));
        }
    }

    /** "KIND the number of an earlier kind line" */
    private static void earlierKinds() {
        bad(HEAD + ";rods 0 1", 2, 24, 1);
        bad(HEAD + ";rods 0 1;kind 7 7", 2, 24, 1);
        bad(HEAD + ";kind 7 7;rods 1 1;kind 8 8", 2, 33, 2);
        good(HEAD + ";kind 7 7;rods 0 1;kind 8 8;rods 1 1;rods 0 1");
    }

    // ---- section 6: the greatest numbers, and the codes 3 and 4

    /** "There are at most 4 kinds, 24 rods, 12 orders and 6 patterns; a pattern has at most 6 lengths." */
    private static void fullYard() {
        RodYard x = Yards.of(Yards.FULL);
        CHECK.same("6: kinds", x.count(0), 4);
        CHECK.same("6: rods", x.count(1), 24);
        CHECK.same("6: orders", x.count(2), 12);
        CHECK.same("6: patterns", x.count(3), 6);
        CHECK.same("6: LENGTH of the last kind", x.kind(3, false), 200);
        CHECK.same("6: kind of the last rod", x.rod(23, 0), 3);
        CHECK.same("6: DUE of the last order", x.order(11, 3), 99);
        for (int p = 0; p < 6; p++) {
            CHECK.same("6: lengths of pattern " + p, x.patternSize(p), 6);
        }
        CHECK.same("6: the last length", x.patternLength(5, 5), 11);
    }

    private static String times(String line, int count) {
        StringBuilder text = new StringBuilder();
        for (int i = 0; i < count; i++) {
            text.append(line);
        }
        return text.toString();
    }

    /** "4: the first word of a fifth kind line" */
    private static void fifthKind() {
        String four = HEAD + ";kind 1 1;kind 1 2;kind 2 1;kind 2 2";
        int at = four.length() + 1;
        good(four);
        bad(four + ";kind 3 3", 4, at, 5);
        bad(four + ";kind", 4, at, 5);
        bad(four + ";kind 1 1", 4, at, 5);
        bad(four + ";kind 201 A", 4, at, 5);
        bad(four + ";rods 0 1;kind 3 3", 4, at + 9, 6);
        bad(four + ";kinds 3 3", 1, at, 5);
        bad(four + ";3 3", 1, at, 5);
    }

    /** "4: [..] a COUNT of a rods line with which there would be more than 24 rods" */
    private static void twentyFifthRod() {
        String kind = HEAD + ";kind 5 5";
        String many = kind + ";rods 0 9;rods 0 9";
        int count = many.length() + 8;
        for (int n = 1; n <= 9; n++) {
            if (n <= 6) {
                CHECK.same("6: 18 and " + n + " rods", Yards.of(many + ";rods 0 " + n).count(1), 18 + n);
            } else {
                bad(many + ";rods 0 " + n, 4, count, 4);
            }
        }
        String full = many + ";rods 0 6";
        for (int n = 1; n <= 9; n++) {
            bad(full + ";rods 0 " + n, 4, count + 9, 5);
        }
        bad(full + ";rods 1 1", 2, count + 7, 5);
        bad(full + ";rods 0", 1, count + 8, 5);
        CHECK.same("6: 23 and 1 rods", Yards.of(many + ";rods 0 5;rods 0 1").count(1), 24);
        bad(many + ";rods 0 5;rods 0 2", 4, count + 9, 5);
        CHECK.same("6: 24 lines with a rod each", Yards.of(kind + times(";rods 0 1", 24)).count(1), 24);
        bad(kind + times(";rods 0 1", 25), 4, kind.length() + 24 * 9 + 8, 26);
    }

    /** "4: [..] a 13th order line" */
    private static void thirteenthOrder() {
        String eleven = HEAD + times(";order 1 1 1 1", 11);
        String twelve = eleven + ";order 200 9 99 99";
        int at = twelve.length() + 1;
        CHECK.same("6: 12 orders", Yards.of(twelve).count(2), 12);
        good(twelve + ";pattern 1;kind 1 1");
        bad(twelve + ";order 1 1 1 1", 4, at, 13);
        bad(twelve + ";order", 4, at, 13);
        bad(twelve + ";order A", 4, at, 13);
        bad(twelve + ";pattern 1;order 1 1 1 1", 4, at + 10, 14);
        bad(eleven + ";order 1 1 1", 1, eleven.length() + 12, 12);
    }

    /** "4: [..] or a seventh pattern line" */
    private static void seventhPattern() {
        String six = HEAD + times(";pattern 1", 6);
        int at = six.length() + 1;
        CHECK.same("6: 6 patterns", Yards.of(six).count(3), 6);
        good(six + ";order 1 1 1 1;kind 1 1");
        bad(six + ";pattern 1", 4, at, 7);
        bad(six + ";pattern", 4, at, 7);
        bad(six + ";pattern 201", 4, at, 7);
        bad(six + ";kind 1 1;pattern 1", 4, at + 9, 8);
    }

    /** "4: [..] the seventh LENGTH of a pattern"; "a pattern has at most 6 lengths" */
    private static void seventhLength() {
        String one = HEAD + ";pattern";
        for (int n = 1; n <= 6; n++) {
            CHECK.same("6: a pattern with " + n, Yards.of(one + times(" 9", n)).patternSize(0), n);
        }
        int at = one.length() + 13;
        bad(one + times(" 9", 7), 4, at, 1);
        bad(one + times(" 9", 8), 4, at, 1);
        bad(one + " 1 2 3 4 5 6 200;row", 4, at, 1);
        bad(one, 1, one.length(), 1);
        bad(one + ";kind 1 1", 1, one.length(), 1);
        // Each pattern has six of its own.
        good(one + times(" 9", 6) + ";pattern" + times(" 9", 6));
        bad(one + times(" 9", 6) + ";pattern" + times(" 9", 7), 4, at + 20, 2);
    }

    /** "3: a LENGTH and PRICE that an earlier kind line has, at the PRICE." */
    private static void sameKind() {
        String three = HEAD + ";kind 7 5;kind 7 6;kind 8 5";
        int at = three.length() + 8;
        good(three + ";kind 8 6");
        good(three + ";kind 5 7");
        bad(three + ";kind 7 5", 3, at, 4);
        bad(three + ";kind 7 6", 3, at, 4);
        bad(three + ";kind 8 5", 3, at, 4);
        bad(three + ";kind 8 005;", 3, at, 4);
        bad(three + ";rods 0 1;kind 7 5", 3, at + 9, 5);
        bad(HEAD + ";kind 200 99;kind 200 99", 3, 40, 2);
    }

    /** "if several errors apply to that token, the smallest code is reported" */
    private static void smallestCode() {
        String rods = HEAD + ";kind 5 5;rods 0 9;rods 0 9;rods 0 6;rods 0 ";
        bad(rods + "0001", 1, rods.length(), 5);
        bad(rods + "10", 2, rods.length(), 5);
        bad(rods + "999", 2, rods.length(), 5);
        bad(rods + "0", 2, rods.length(), 5);
        bad(rods + "9", 4, rods.length(), 5);
        String lengths = HEAD + ";pattern 1 2 3 4 5 6 ";
        bad(lengths + "0007", 1, lengths.length(), 1);
        bad(lengths + "a", 1, lengths.length(), 1);
        bad(lengths + "0", 2, lengths.length(), 1);
        bad(lengths + "201", 2, lengths.length(), 1);
        bad(lengths + "200", 4, lengths.length(), 1);
        String price = HEAD + ";kind 5 5;kind 5 ";
        bad(price + "0005", 1, price.length(), 2);
        bad(price + "100", 2, price.length(), 2);
        bad(price + "5", 3, price.length(), 2);
    }

    /** "Parsing stops at the first token, from the left, at which an error is found." */
    private static void firstToken() {
        bad("yard kerf 10 keep 0;A", 2, 10, 0);
        bad("yard kerf 9 keep 0;A", 2, 17, 0);
        bad("yard kerf 9 keep 1;A", 1, 19, 1);
        bad(HEAD + ";kind 5 5;kind 5 5;kind 0 0;A", 3, 35, 2);
        bad(HEAD + ";pattern 1 2 3 4 5 6 7 0 A", 4, 39, 1);
        bad(HEAD + ";order 0 0 100 100", 2, 25, 1);
        bad(HEAD + ";order 1 0 100 100", 2, 27, 1);
        bad(HEAD + ";order 1 1 100 100", 2, 29, 1);
        bad(HEAD + ";order 1 1 99 100", 2, 32, 1);
    }

    /** "the end of the text where a line is not complete"; "at the end of the text it is the number of bytes" */
    private static void endsOfText() {
        String text = "yard kerf 3 keep 20;kind 100 7;rods 0 5;order 40 3 10 1;pattern 40 25 ;pattern 1";
        int whole = 0;
        for (int end = 0; end <= text.length(); end++) {
            boolean ofToken = end == text.length() || text.charAt(end) == ' ' || text.charAt(end) == ';'
                    || end > 0 && text.charAt(end - 1) == ';';
            if (!ofToken) {
                continue;
            }
            String part = text.substring(0, end);
            if (part.matches("yard kerf 3 keep 20(;kind 100 7)?(;rods 0 5)?(;order 40 3 10 1)?(;pattern 40( 25)?)? ?"
                    + "(;pattern 1)?")) {
                good(part);
                whole++;
            } else {
                bad(part, 1, end, part.replaceAll("[^;]", "").length());
                bad(part + "  ", 1, end + 2, part.replaceAll("[^;]", "").length());
            }
        }
        CHECK.same("6: whole texts", whole, 8);
    }

    /** "The line of an error is the number of semicolons ahead of its position." */
    private static void lines() {
        bad(";", 1, 0, 0);
        bad("yard;;", 1, 4, 0);
        bad(HEAD + ";;", 1, 19, 1);
        bad(HEAD + ";", 1, 19, 1);
        bad(HEAD + ";pattern 1;pattern 1;pattern 1;;;;", 1, 49, 4);
        bad(HEAD + ";pattern 1;pattern 0;pattern 1;;;;", 2, 37, 2);
        String many = HEAD + times(";kind 9 9;rods 0 1", 1) + times(";rods 0 1", 23) + times(";order 1 1 1 1", 12)
                + times(";pattern 1", 6);
        bad(many + ";", 1, many.length() + 1, 44);
    }
}
