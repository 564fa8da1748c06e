/** Puts texts into yards and takes texts out of them. */
final class Yards {
    /** A text with as many kinds, rods, orders and patterns as there can be. */
    static final String FULL = "yard kerf 0 keep 1;kind 10 1;kind 20 2;kind 30 3;kind 200 99;rods 0 9;rods 1 9;rods 3 6"
            + ";order 200 9 99 0;order 1 9 0 99;order 2 9 9 9;order 3 9 9 9;order 4 9 9 9;order 5 9 9 9;order 6 9 9 9"
            + ";order 7 9 9 9;order 8 9 9 9;order 9 9 9 9;order 10 9 9 9;order 11 9 9 99"
            + ";pattern 1 2 3 4 5 6;pattern 2 3 4 5 6 7;pattern 3 4 5 6 7 8;pattern 4 5 6 7 8 9;pattern 5 6 7 8 9 10"
            + ";pattern 200 200 200 200 200 11";

    private Yards() {
    }

    static RodYard of(String text) {
        RodYard yard = new RodYard();
        put(yard, text);
        yard.load(text.length());
        return yard;
    }

    /** Appends a text; blanks fill its last twenty bytes. */
    static int put(RodYard yard, String text) {
        int answer = yard.buffered();
        for (int at = 0; at < text.length(); at += 20) {
            answer = yard.append(word(text, at), word(text, at + 4), word(text, at + 8), word(text, at + 12),
                    word(text, at + 16));
        }
        return answer;
    }

    static String text(RodYard yard, int length) {
        StringBuilder out = new StringBuilder();
        for (int i = 0; i < length; i++) {
            out.append((char) yard.textByte(i));
        }
        return out.toString();
    }

    private static int word(String text, int at) {
        int word = 0;
        for (int i = at; i < at + 4; i++) {
            word = word << 8 | (i < text.length() ? text.charAt(i) & 255 : ' ');
        }
        return word;
    }
}
