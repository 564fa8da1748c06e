/** Promises 25 to 30: patterns that fit and are wanted, and the best that a rod can be cut. */
public final class PatternTest {
    private static final Check CHECK = new Check();

    public static void main(String[] args) {
        fitting();
        patternRods();
        wantedPatterns();
        bestOfARod();
        eachAlone();
        wrongNumbers();
        CHECK.end();
    }

    private static void fitting() {
        RodYard x = Yards.of("yard kerf 3 keep 20;kind 50 3;kind 49 1;rods 0 1;rods 1 1;kind 7 7;rods 2 1;"
                + "pattern 20 20;pattern 10 10 20;pattern 24 23;pattern 24 22 1;pattern 7;pattern 4 1");
        CHECK.same("20 20 of 50", x.fits(0, 0), true);
        CHECK.same("20 20 of 50 leaves", x.patternLeft(0, 0), 4);
        CHECK.same("20 20 of 49 leaves", x.patternLeft(0, 1), 3);
        CHECK.same("20 20 of 7", x.fits(0, 2), false);
        CHECK.same("20 20 of 7 leaves", x.patternLeft(0, 2), -1);
        CHECK.same("10 10 20 of 50 leaves", x.patternLeft(1, 0), 1);
        CHECK.same("10 10 20 of 49 leaves", x.patternLeft(1, 1), 0);
        CHECK.same("24 23 of 50: the last kerf has nothing", x.patternLeft(2, 0), 0);
        CHECK.same("24 23 of 49", x.patternLeft(2, 1), -1);
        CHECK.same("24 22 1 of 50", x.patternLeft(3, 0), -1);
        CHECK.same("7 of 7", x.patternLeft(4, 2), 0);
        CHECK.same("7 of 7", x.fits(4, 2), true);
        CHECK.same("4 1 of 7: kerf takes all behind 4", x.fits(5, 2), false);
        x.setSetting(0, 2);
        CHECK.same("4 1 of 7 with KERF 2", x.patternLeft(5, 2), 0);
        x.scrap(2);
        x.cutPiece(1, 49);
        CHECK.same("of a scrapped rod", x.fits(4, 2), false);
        CHECK.same("of a used up rod", x.patternLeft(4, 1), -1);
    }

    private static void patternRods() {
        RodYard x = Yards.of("yard kerf 1 keep 1;kind 30 1;kind 20 1;rods 0 2;rods 1 2;pattern 10 10;pattern 9 10;"
                + "pattern 20 9;pattern 30 1");
        CHECK.same("10 10 needs 21", x.patternRod(0), 0);
        CHECK.same("9 10 needs 20: the least length", x.patternRod(1), 2);
        CHECK.same("20 9 needs 30: of several the smallest number", x.patternRod(2), 0);
        CHECK.same("30 1 fits none", x.patternRod(3), -1);
        x.cutPiece(1, 5); // 24 is less than 30
        CHECK.same("10 10 behind a cut", x.patternRod(0), 1);
        x.scrap(2);
        CHECK.same("9 10 behind scrap", x.patternRod(1), 3);
    }

    private static void wantedPatterns() {
        RodYard x = Yards.of("yard kerf 0 keep 1;kind 200 1;rods 0 2;order 10 2 1 1;order 20 1 1 1;order 10 1 1 0;"
                + "pattern 10 10 10;pattern 20 20;pattern 10 20 10;pattern 5;pattern 20;pattern 10 10 10 10");
        CHECK.same("wanted at first", x.wantedPatterns(), 1 + 4 + 16);
        x.cutPiece(0, 20);
        CHECK.same("wanted without 20", x.wantedPatterns(), 1);
        x.addOrder(5, 1, 0, 0);
        CHECK.same("wanted with 5", x.wantedPatterns(), 1 + 8);
        x.cancel(2);
        CHECK.same("wanted behind cancel", x.wantedPatterns(), 8);
        // Whether a pattern fits does not matter.
        x.scrap(0);
        x.scrap(1);
        CHECK.same("wanted without stock", x.wantedPatterns(), 8);
        RodYard y = Yards.of("yard kerf 0 keep 1");
        CHECK.same("wanted without patterns", y.wantedPatterns(), 0);
    }

    private static void best(String what, RodYard x, int rod, int left, int pieces) {
        CHECK.same(what + ": bestLeft", x.bestLeft(rod), left);
        CHECK.same(what + ": bestPieces", x.bestPieces(rod), pieces);
    }

    private static void bestOfARod() {
        String head = "yard kerf 0 keep 1;kind 100 1;kind 10 1;rods 0 1;rods 1 1";
        best("no orders", Yards.of(head), 0, 100, 0);
        best("too long pieces", Yards.of(head + ";order 11 9 0 0"), 1, 10, 0);
        best("51 or 50 twice", Yards.of(head + ";order 51 1 0 0;order 50 2 0 0"), 0, 0, 2);
        best("each no more often than it is lacking", Yards.of(head + ";order 30 2 0 0"), 0, 40, 2);
        best("fewest pieces", Yards.of(head + ";order 20 5 0 0;order 50 2 0 0;order 40 1 0 0"), 0, 0, 2);
        best("33 thrice", Yards.of(head + ";order 33 9 0 0;order 98 1 0 0"), 0, 1, 3);
        best("a piece of 1", Yards.of(head + ";order 1 1 0 0"), 1, 9, 1);
        best("a piece of 1 and nine", Yards.of(head + ";order 1 1 0 0;order 9 1 0 0"), 1, 0, 2);
        best("4 and 6, or 3 and 3 and 4", Yards.of(head + ";order 3 2 0 0;order 4 1 0 0;order 6 1 0 0"), 1, 0, 2);
        best("two orders of a length", Yards.of(head + ";order 25 2 0 0;order 25 2 0 5"), 0, 0, 4);
        RodYard x = Yards.of("yard kerf 4 keep 1;kind 100 1;rods 0 2;order 46 2 0 0;order 97 1 0 0;order 40 1 0 0");
        best("kerf behind the last piece is cut short", x, 0, 0, 1);
        x.cancel(1);
        best("46 + 4 + 46 + 4", x, 0, 0, 2);
        x.cutPiece(1, 46);
        best("46 + 4 + 40 + 4", x, 0, 6, 2);
        x.setSetting(0, 0);
        best("46 + 40 without kerf", x, 0, 14, 2);
        x.setSetting(0, 9);
        best("46 + 9 + 40 + 5", x, 0, 0, 2);
        x.scrap(0);
        best("a scrapped rod", x, 0, 0, 0);
        best("46 + 4 of a rod that was cut", x, 1, 0, 1);
        // 8 + 9 exceeds 10: the rod is used up by one piece alone.
        best("kerf 9 of a short rod", Yards.of("yard kerf 9 keep 1;kind 10 1;rods 0 1;order 1 9 0 0"), 0, 0, 1);
        best("all of the longest", Yards.of("yard kerf 9 keep 1;kind 200 1;rods 0 1;order 200 1 0 0;order 1 9 0 0"), 0,
                0, 1);
        best("20 pieces of 1", Yards.of("yard kerf 9 keep 1;kind 200 1;rods 0 1;order 1 9 0 0;order 1 9 0 0;"
                + "order 1 9 0 0"), 0, 0, 20);
    }

    private static void eachAlone() {
        RodYard x = Yards.of("yard kerf 0 keep 1;kind 10 1;rods 0 1;order 3 2 1 1");
        CHECK.same("bestPieces alone", x.bestPieces(0), 2);
        x.cancel(0);
        CHECK.same("bestPieces behind cancel", x.bestPieces(0), 0);
    }

    private static void wrongNumbers() {
        RodYard x = Yards.of("yard kerf 0 keep 1;kind 10 1;rods 0 2;pattern 5");
        for (int wrong : new int[] {-1, 2, Integer.MAX_VALUE, Integer.MIN_VALUE}) {
            CHECK.fails("fits(0, wrong)", Check.INDEX, () -> x.fits(0, wrong) ? 1 : 0);
            CHECK.fails("fits(wrong, 0)", Check.INDEX, () -> x.fits(wrong, 0) ? 1 : 0);
            CHECK.fails("patternLeft(0, wrong)", Check.INDEX, () -> x.patternLeft(0, wrong));
            CHECK.fails("patternLeft(wrong, 0)", Check.INDEX, () -> x.patternLeft(wrong, 0));
            CHECK.fails("patternRod(wrong)", Check.INDEX, () -> x.patternRod(wrong));
            CHECK.fails("bestLeft(wrong)", Check.INDEX, () -> x.bestLeft(wrong));
            CHECK.fails("bestPieces(wrong)", Check.INDEX, () -> x.bestPieces(wrong));
        }
        CHECK.fails("patternRod(1)", Check.INDEX, () -> x.patternRod(1));
    }
}
