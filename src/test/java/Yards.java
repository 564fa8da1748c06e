/** Puts texts into yards and takes texts out of them. */
final class Yards {
    private Yards() {
    }

    static RodYard of(String text) {
        RodYard yard = new RodYard();
        put(yard, text);
        yard.load(text.length());
        return yard;
    }

    /** Appends a text; blanks fill its last twenty bytes. */
    static int put(RodYard yard, String text) {
        int answer = yard.buffered();
        for (int at = 0; at < text.length(); at += 20) {
            answer = yard.append(word(text, at), word(text, at + 4), word(text, at + 8), word(text, at + 12),
                    word(text, at + 16));
        }
        return answer;
    }

    static String text(RodYard yard, int length) {
        StringBuilder out = new StringBuilder();
        for (int i = 0; i < length; i++) {
            out.append((char) yard.textByte(i));
        }
        return out.toString();
    }

    private static int word(String text, int at) {
        int word = 0;
        for (int i = at; i < at + 4; i++) {
            word = word << 8 | (i < text.length() ? text.charAt(i) & 255 : ' ');
        }
        return word;
    }
}
