/** The example of README.md, which prints this file as it is. */
public final class Example {
    public static void main(String[] args) {
        RodYard yard = new RodYard();
        String text = "yard kerf 2 keep 20;kind 100 3;rods 0 2;order 40 3 10 1;pattern 40 40";
        put(yard, text);
        System.out.println("rods: " + yard.load(text.length()));

        System.out.println("policy 1 would cut " + yard.piecesIf(1) + " and lose " + yard.lossIf(1));
        System.out.println("cut by policy 1: " + yard.fill(1));
        System.out.println("rods: " + written(yard, yard.writeRods()));
        System.out.println("units lost at the end of the round: " + yard.endRound());
        System.out.println("rods: " + written(yard, yard.writeRods()));
        System.out.println("order: " + written(yard, yard.writeOrder(0)));

        System.out.println("changes to undo: " + yard.undoable() + ", then " + yard.undo());
        System.out.println("round: " + yard.round());
        try {
            yard.cutPiece(0, 17);
        } catch (IllegalArgumentException e) {
            System.out.println("rod 0 has only " + yard.rod(0, 1));
        }

        put(yard, "yard kerf 2 keep 20;kind 100 300");
        try {
            yard.load(32);
        } catch (IllegalArgumentException e) {
            System.out.println("error " + yard.parseError() + " at byte " + yard.errorPosition() + " in line "
                    + yard.errorLine() + ", the yard before has " + yard.count(1) + " rods still");
        }
    }

    /** Appends a text, twenty bytes at a time; what is behind its end is filled with blanks. */
    private static void put(RodYard yard, String text) {
        for (int at = 0; at < text.length(); at += 20) {
            yard.append(word(text, at), word(text, at + 4), word(text, at + 8), word(text, at + 12),
                    word(text, at + 16));
        }
    }

    private static int word(String text, int at) {
        int word = 0;
        for (int i = at; i < at + 4; i++) {
            word = word << 8 | (i < text.length() ? text.charAt(i) : ' ');
        }
        return word;
    }

    private static String written(RodYard yard, int size) {
        StringBuilder out = new StringBuilder();
        for (int i = 0; i < size; i++) {
            out.append((char) yard.textByte(i));
        }
        return out.toString();
    }
}
