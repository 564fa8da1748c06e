/** Promises 38 to 45: each sentence that names a boundary has a test of its own, below its words. */
public final class AccountEdgesTest {
    private static final Check CHECK = new Check();
    private static final String EMPTY = "yard kerf 0 keep 1";

    public static void main(String[] args) {
        accountOutOfRange();
        accountsAtFirst();
        purchases();
        unitsByKerf();
        unitsByScrapping();
        costOfLosses();
        earnings();
        latePieces();
        piecesAndUnits();
        meanWithoutPieces();
        meanOfPieces();
        shareWithoutUnits();
        shareOfUnits();
        cutsWithoutYard();
        firstSixty();
        sixtyWithinAChange();
        noSuchCut();
        cutOutOfRange();
        partsOfACut();
        rodsWritten();
        noRodsWritten();
        allRodsWritten();
        orderWritten();
        orderWrittenGone();
        noSuchOrder();
        noSuchByte();
        textStays();
        refusedTextStays();
        CHECK.end();
    }

    // ---- promise 38

    /** "IllegalArgumentException if what is out of range" */
    private static void accountOutOfRange() {
        RodYard x = Yards.of("yard kerf 2 keep 20;kind 100 3;rods 0 2;order 40 1 9 0");
        x.cutPiece(0, 40);
        x.endRound();
        x.buy(0);
        x.addOrder(30, 1, 9, 0);
        x.cutPiece(0, 30);
        x.scrap(1);
        int[] due = {300, 4, 100, 312, 13, 2, 1, 70};
        for (int what = 0; what < 8; what++) {
            CHECK.same("38: account " + what, x.account(what), due[what]);
        }
        Snapshot.refusedBeyond(CHECK, "38: account", Check.ARGUMENT, x, 8, x::account);
    }

    /** "the round and all accounts are 0" */
    private static void accountsAtFirst() {
        for (int what = 0; what < 8; what++) {
            CHECK.same("38: account " + what + " of nothing", Yards.of(EMPTY).account(what), 0);
            CHECK.same("38: account " + what + " of all", Yards.of(Yards.FULL).account(what), 0);
        }
    }

    /** "0 what purchases cost"; "LENGTH times PRICE is what it costs" */
    private static void purchases() {
        RodYard x = Yards.of("yard kerf 0 keep 1;kind 1 1;kind 200 99;rods 1 9");
        x.buy(0);
        CHECK.same("38: the cheapest rod", x.account(0), 1);
        x.buy(1);
        CHECK.same("38: the dearest rod", x.account(0), 19801);
        x.scrap(9);
        x.scrap(10);
        CHECK.same("38: a rod that is scrapped was bought all the same", x.account(0), 19801);
        Snapshot.refused(CHECK, "38: a kind that is not there", Check.INDEX, x, () -> x.buy(2));
    }

    /** "1 units lost by KERF"; "KERF units are lost, but not more than the rod still has" */
    private static void unitsByKerf() {
        RodYard x = Yards.of("yard kerf 3 keep 1;kind 10 1;rods 0 9");
        int[] pieces = {5, 6, 7, 8, 9, 10};
        int[] lost = {3, 3, 3, 2, 1, 0};
        int sum = 0;
        for (int i = 0; i < pieces.length; i++) {
            x.cutPiece(i, pieces[i]);
            sum += lost[i];
            CHECK.same("38: kerf behind " + pieces[i] + " of 10", x.account(1), sum);
        }
        x.setSetting(0, 0);
        x.cutPiece(7, 5);
        CHECK.same("38: no kerf", x.account(1), sum);
    }

    /** "2 units lost by scrapping": by scrap and at the end of a round. */
    private static void unitsByScrapping() {
        RodYard x = Yards.of("yard kerf 0 keep 5;kind 10 1;rods 0 5");
        x.scrap(0);
        CHECK.same("38: by scrap", x.account(2), 10);
        x.cutPiece(1, 6);
        x.cutPiece(2, 5);
        x.cutPiece(3, 10);
        CHECK.same("38: ahead of the end of the round", x.account(2), 10);
        x.endRound();
        CHECK.same("38: 4 of rod 1, not 5 of rod 2", x.account(2), 14);
    }

    /** "3 what all losses cost"; "costs the PRICE of its kind for each unit" */
    private static void costOfLosses() {
        RodYard x = Yards.of("yard kerf 1 keep 200;kind 200 99;kind 200 1;rods 0 3;rods 1 3");
        x.cutPiece(0, 198);
        CHECK.same("38: the kerf of a dear rod", x.account(3), 99);
        x.cutPiece(3, 198);
        CHECK.same("38: the kerf of a cheap rod", x.account(3), 100);
        x.cutPiece(4, 200);
        CHECK.same("38: no kerf", x.account(3), 100);
        x.scrap(1);
        CHECK.same("38: the greatest loss", x.account(3), 19900);
        x.scrap(5);
        CHECK.same("38: a cheap loss", x.account(3), 20100);
        x.endRound();
        CHECK.same("38: a unit of each", x.account(3), 20200);
    }

    /** "is in time if the round is not greater than DUE, and earns VALUE; otherwise [..] VALUE / 2 (rounded down)" */
    private static void earnings() {
        int[] values = {0, 1, 2, 3, 98, 99};
        for (int value : values) {
            RodYard x = Yards.of("yard kerf 0 keep 1;kind 9 1;rods 0 2;order 1 9 " + value + " 1");
            x.cutPiece(0, 1);
            CHECK.same("38: ahead of DUE, " + value, x.account(4), value);
            x.endRound();
            x.cutPiece(0, 1);
            CHECK.same("38: at DUE, " + value, x.account(4), 2 * value);
            x.endRound();
            x.cutPiece(0, 1);
            CHECK.same("38: behind DUE, " + value, x.account(4), 2 * value + value / 2);
            x.cutPiece(0, 2);
            CHECK.same("38: nothing by the store, " + value, x.account(4), 2 * value + value / 2);
        }
    }

    /** "6 late pieces"; "if the round is not greater than DUE" */
    private static void latePieces() {
        RodYard x = Yards.of("yard kerf 0 keep 1;kind 9 1;rods 0 3;order 1 2 0 0;order 2 2 0 1");
        x.cutPiece(0, 1);
        CHECK.same("38: round 0 and DUE 0", x.account(6), 0);
        x.endRound();
        x.cutPiece(0, 2);
        CHECK.same("38: round 1 and DUE 1", x.account(6), 0);
        x.cutPiece(0, 1);
        CHECK.same("38: round 1 and DUE 0", x.account(6), 1);
        x.endRound();
        x.cutPiece(0, 2);
        CHECK.same("38: round 2 and DUE 1", x.account(6), 2);
        x.cutPiece(0, 2);
        CHECK.same("38: the store", x.account(6), 2);
        RodYard y = Yards.of("yard kerf 0 keep 1;kind 9 1;rods 0 1;order 1 2 8 99");
        for (int round = 0; round < 99; round++) {
            y.endRound();
        }
        y.cutPiece(0, 1);
        CHECK.same("38: round 99 and DUE 99", y.account(6), 0);
        y.endRound();
        y.cutPiece(0, 1);
        CHECK.same("38: round 100 and DUE 99", y.account(6), 1);
        CHECK.same("38: earned by both", y.account(4), 12);
    }

    /** "5 pieces cut", "7 units of all pieces cut"; "but nothing is cut for this" */
    private static void piecesAndUnits() {
        RodYard x = Yards.of("yard kerf 9 keep 1;kind 200 1;rods 0 9;order 200 1 0 0;pattern 1 2 3");
        x.cutPiece(0, 200);
        CHECK.same("38: a piece of 200", x.account(5), 1);
        CHECK.same("38: its units", x.account(7), 200);
        x.cutPiece(1, 1);
        CHECK.same("38: a piece of 1 for the store", x.account(5), 2);
        CHECK.same("38: its units", x.account(7), 201);
        x.cutPattern(0, 2);
        CHECK.same("38: the pieces of a pattern", x.account(5), 5);
        CHECK.same("38: their units", x.account(7), 207);
        x.addOrder(1, 2, 0, 0);
        CHECK.same("38: two pieces from the store", x.account(5), 5);
        CHECK.same("38: their units", x.account(7), 207);
        x.scrap(3);
        CHECK.same("38: scrap cuts nothing", x.account(5), 5);
        CHECK.same("38: scrap has no units", x.account(7), 207);
    }

    // ---- promises 39 and 40

    /** "Returns the mean; 0.0 without pieces." */
    private static void meanWithoutPieces() {
        CHECK.sameReal("39: nothing", Yards.of(EMPTY).meanLoss(), 0.0);
        RodYard x = Yards.of("yard kerf 1 keep 1;kind 10 7;rods 0 2");
        x.scrap(0);
        CHECK.sameReal("39: a loss, but no pieces", x.meanLoss(), 0.0);
        x.cutPiece(1, 10);
        CHECK.sameReal("39: the first piece", x.meanLoss(), 70.0);
        x.undo();
        CHECK.sameReal("39: no pieces again", x.meanLoss(), 0.0);
    }

    /** "converted to a double, divided by the number of pieces cut, converted to a double" */
    private static void meanOfPieces() {
        RodYard x = Yards.of("yard kerf 1 keep 1;kind 10 7;rods 0 3");
        x.cutPiece(0, 10);
        CHECK.sameReal("39: no loss", x.meanLoss(), 0.0);
        x.cutPiece(1, 5);
        CHECK.sameReal("39: a half", x.meanLoss(), 3.5);
        x.cutPiece(2, 10);
        CHECK.sameReal("39: a third", x.meanLoss(), 7.0 / 3.0);
        x.cutPiece(1, 1);
        CHECK.sameReal("39: a quarter", x.meanLoss(), 14.0 / 4.0);
    }

    /** "Returns the share; 0.0 if there are no such units." */
    private static void shareWithoutUnits() {
        CHECK.sameReal("40: nothing", Yards.of(EMPTY).shareUsed(), 0.0);
        RodYard x = Yards.of("yard kerf 0 keep 1;kind 10 7;rods 0 2");
        CHECK.sameReal("40: no units", x.shareUsed(), 0.0);
        x.scrap(0);
        CHECK.sameReal("40: no units of pieces", x.shareUsed(), 0.0);
        x.undo();
        x.cutPiece(0, 10);
        CHECK.sameReal("40: units of pieces alone", x.shareUsed(), 1.0);
    }

    /** "divided by these units and all units lost together, converted to a float" */
    private static void shareOfUnits() {
        RodYard x = Yards.of("yard kerf 1 keep 1;kind 10 7;rods 0 3");
        x.cutPiece(0, 9);
        CHECK.sameReal("40: a unit by the kerf", x.shareUsed(), 9f / 10f);
        x.scrap(1);
        CHECK.sameReal("40: ten units by scrap", x.shareUsed(), 9f / 20f);
        x.cutPiece(2, 1);
        CHECK.sameReal("40: another unit by the kerf", x.shareUsed(), 10f / 22f);
        CHECK.sameReal("40: it is a float", x.shareUsed(), (double) (10f / 22f));
    }

    // ---- promises 41 and 42

    /** "0 if there is no yard" */
    private static void cutsWithoutYard() {
        RodYard x = new RodYard();
        CHECK.same("41: new", x.cuts(), 0);
        Yards.put(x, "A");
        CHECK.fails("3: a wrong text", Check.ARGUMENT, () -> x.load(1));
        CHECK.same("41: behind a wrong text", x.cuts(), 0);
        CHECK.same("41: a yard without cuts", Yards.of(EMPTY).cuts(), 0);
    }

    /** "the number of cuts that are kept in the log, the first 60 since the text was loaded" */
    private static void firstSixty() {
        RodYard x = Yards.of("yard kerf 0 keep 1;kind 200 1;rods 0 1");
        for (int i = 1; i <= 65; i++) {
            x.cutPiece(0, i <= 60 ? 1 : 2);
            CHECK.same("41: " + i + " cuts", x.cuts(), Math.min(i, 60));
            if (i % 20 == 0) {
                x.endRound();
            }
        }
        for (int k = 0; k < 60; k++) {
            CHECK.same("42: the round of cut " + k, x.cut(k, 0), k / 20);
            CHECK.same("42: the length of cut " + k, x.cut(k, 2), 1);
        }
        CHECK.same("38: pieces beyond the log", x.account(5), 65);
        String text = "yard kerf 0 keep 1;kind 9 1;rods 0 1";
        Yards.put(x, text);
        x.load(text.length());
        CHECK.same("41: since the text was loaded", x.cuts(), 0);
        x.cutPiece(0, 3);
        CHECK.same("42: the first of the new text", x.cut(0, 2), 3);
    }

    /** "the first 60": of the pieces of one change some are kept, and others are not. */
    private static void sixtyWithinAChange() {
        RodYard x = Yards.of("yard kerf 0 keep 1;kind 200 1;rods 0 1;order 9 4 0 0;order 7 4 0 0;pattern 1 2 3 4 5 6");
        for (int i = 0; i < 57; i++) {
            x.cutPiece(0, 1);
        }
        x.cutPattern(0, 0);
        CHECK.same("41: three of the pattern's six", x.cuts(), 60);
        CHECK.same("42: the 60th", x.cut(59, 2), 3);
        CHECK.same("38: all six", x.account(5), 63);
        x.undo();
        CHECK.same("41: behind undo", x.cuts(), 57);
        x.fill(1);
        CHECK.same("41: three of the fill's eight", x.cuts(), 60);
        CHECK.same("42: the 60th by fill", x.cut(59, 2), 9);
        CHECK.same("38: all eight", x.account(5), 65);
    }

    /** "IndexOutOfBoundsException if there is no such cut", which is listed ahead of IllegalArgumentException. */
    private static void noSuchCut() {
        RodYard x = Yards.of("yard kerf 0 keep 1;kind 200 1;rods 0 1");
        for (int what : new int[] {0, 3, -1, 4}) {
            CHECK.fails("42: the first of none", Check.INDEX, () -> x.cut(0, what));
        }
        x.cutPiece(0, 5);
        x.cutPiece(0, 6);
        CHECK.same("42: the first", x.cut(0, 2), 5);
        CHECK.same("42: the last", x.cut(1, 2), 6);
        for (int what : new int[] {0, 3, -1, 4}) {
            Snapshot.refusedBeyond(CHECK, "42: cut, " + what, Check.INDEX, x, 2, k -> x.cut(k, what));
        }
        x.undo();
        Snapshot.refused(CHECK, "42: a cut that was undone", Check.INDEX, x, () -> x.cut(1, 2));
        for (int i = 0; i < 70; i++) {
            x.cutPiece(0, 1);
        }
        CHECK.same("42: the 60th", x.cut(59, 2), 1);
        CHECK.fails("42: the 61st", Check.INDEX, () -> x.cut(60, 2));
    }

    /** "IllegalArgumentException if what is out of range" */
    private static void cutOutOfRange() {
        RodYard x = Yards.of("yard kerf 0 keep 1;kind 200 1;rods 0 1;order 5 1 0 0");
        x.cutPiece(0, 5);
        Snapshot.refusedBeyond(CHECK, "42: what", Check.ARGUMENT, x, 4, what -> x.cut(0, what));
    }

    /** "0 the round, 1 the rod, 2 the length of the piece, 3 the order to which it went (NONE for the store)" */
    private static void partsOfACut() {
        RodYard x = Yards.of("yard kerf 0 keep 1;kind 200 1;rods 0 9;order 5 1 0 0;order 6 9 0 0;order 5 1 0 9");
        x.cutPiece(0, 200);
        x.endRound();
        x.cutPiece(8, 5);
        x.cutPiece(7, 5);
        x.cutPiece(8, 5);
        int[][] due = {{0, 0, 200, -1}, {1, 8, 5, 0}, {1, 7, 5, 2}, {1, 8, 5, -1}};
        for (int k = 0; k < 4; k++) {
            for (int what = 0; what < 4; what++) {
                CHECK.same("42: part " + what + " of cut " + k, x.cut(k, what), due[k][what]);
            }
        }
        x.addOrder(200, 1, 0, 0);
        CHECK.same("42: it went to the store then", x.cut(0, 3), -1);
    }

    // ---- promises 43 to 45

    private static void textIs(String what, RodYard x, int size, String due) {
        CHECK.same(what + ": bytes", size, due.length());
        CHECK.sameText(what, Yards.text(x, due.length()), due);
        CHECK.fails(what + ": no further byte", Check.INDEX, () -> x.textByte(due.length()));
    }

    /** "by ascending numbers, with a comma between two, [..] and an asterisk if it was cut in this round" */
    private static void rodsWritten() {
        RodYard x = Yards.of("yard kerf 0 keep 1;kind 100 1;rods 0 3");
        textIs("43: three", x, x.writeRods(), "0:100,1:100,2:100");
        x.cutPiece(1, 1);
        textIs("43: one is cut", x, x.writeRods(), "0:100,1:99*,2:100");
        x.scrap(0);
        textIs("43: the first is scrapped", x, x.writeRods(), "1:99*,2:100");
        x.endRound();
        textIs("43: the next round", x, x.writeRods(), "1:99,2:100");
        x.cutPiece(1, 99);
        textIs("43: one, and no comma", x, x.writeRods(), "2:100");
        x.cutPiece(2, 90);
        textIs("43: no leading zeros of 10", x, x.writeRods(), "2:10*");
        x.cutPiece(2, 1);
        textIs("43: no leading zeros of 9", x, x.writeRods(), "2:9*");
        x.cutPiece(2, 8);
        textIs("43: the least length", x, x.writeRods(), "2:1*");
    }

    /** "a hyphen if there is none" */
    private static void noRodsWritten() {
        RodYard none = Yards.of(EMPTY);
        textIs("43: no rods", none, none.writeRods(), "-");
        RodYard x = Yards.of("yard kerf 0 keep 1;kind 100 1;rods 0 2");
        x.writeRods();
        x.scrap(0);
        x.cutPiece(1, 100);
        textIs("43: none in stock", x, x.writeRods(), "-");
        x.buy(0);
        textIs("43: one again", x, x.writeRods(), "2:100");
    }

    /** "for each one, by ascending numbers": of as many as there can be, with the longest numbers. */
    private static void allRodsWritten() {
        RodYard x = Yards.of("yard kerf 0 keep 1;kind 200 1;rods 0 9;rods 0 9;rods 0 6");
        StringBuilder due = new StringBuilder();
        for (int r = 0; r < 40; r++) {
            if (r >= 24) {
                x.buy(0);
            }
            x.cutPiece(r, 100);
            due.append(r == 0 ? "" : ",").append(r).append(":100*");
        }
        textIs("43: forty", x, x.writeRods(), due.toString());
    }

    /** "Numbers have no leading zeros": the least and the greatest of each. */
    private static void orderWritten() {
        RodYard x = Yards.of("yard kerf 0 keep 1;kind 200 1;rods 0 9;order 1 1 0 0;order 200 9 99 99;order 10 2 9 10");
        textIs("44: the least", x, x.writeOrder(0), "1x1 0+0/1 d0");
        textIs("44: the greatest", x, x.writeOrder(1), "200x9 0+0/9 d99");
        textIs("44: ten", x, x.writeOrder(2), "10x2 0+0/2 d10");
        x.addOrder(100, 9, 0, 999);
        x.addOrder(100, 9, 0, 100);
        textIs("44: DUE 999", x, x.writeOrder(3), "100x9 0+0/9 d999");
        textIs("44: DUE 100", x, x.writeOrder(4), "100x9 0+0/9 d100");
        for (int i = 0; i < 9; i++) {
            x.cutPiece(i, 200);
        }
        textIs("44: all in time", x, x.writeOrder(1), "200x9 9+0/0 d99");
        x.endRound();
        x.addOrder(5, 9, 0, 0);
        x.buy(0);
        for (int i = 0; i < 9; i++) {
            x.cutPiece(9, 5);
        }
        textIs("44: all late", x, x.writeOrder(5), "5x9 0+9/0 d0");
    }

    /** "then, if it is cancelled, a blank and the word gone" */
    private static void orderWrittenGone() {
        RodYard x = Yards.of("yard kerf 0 keep 1;kind 200 1;rods 0 2;order 30 3 0 0;order 40 1 0 0");
        x.cutPiece(0, 30);
        x.endRound();
        x.cutPiece(0, 30);
        textIs("44: not cancelled", x, x.writeOrder(0), "30x3 1+1/1 d0");
        x.cancel(0);
        textIs("44: cancelled", x, x.writeOrder(0), "30x3 1+1/0 d0 gone");
        x.undo();
        textIs("44: cancelled no more", x, x.writeOrder(0), "30x3 1+1/1 d0");
        x.cutPiece(0, 40);
        textIs("44: filled, not cancelled", x, x.writeOrder(1), "40x1 0+1/0 d0");
    }

    /** "IndexOutOfBoundsException if there is no such order" */
    private static void noSuchOrder() {
        RodYard x = Yards.of("yard kerf 0 keep 1;order 30 3 0 0;order 40 1 0 5");
        textIs("44: the last", x, x.writeOrder(1), "40x1 0+0/1 d5");
        Snapshot.refusedBeyond(CHECK, "44: order", Check.INDEX, x, 2, x::writeOrder);
        textIs("44: the text ahead stays", x, 13, "40x1 0+0/1 d5");
        CHECK.fails("44: no orders", Check.INDEX, () -> Yards.of(EMPTY).writeOrder(0));
    }

    /** "IndexOutOfBoundsException if there is no such byte (always, before the first text)" */
    private static void noSuchByte() {
        RodYard x = new RodYard();
        for (int i : new int[] {0, 1, -1, Integer.MAX_VALUE, Integer.MIN_VALUE}) {
            Snapshot.refused(CHECK, "45: without a yard", Check.INDEX, x, () -> x.textByte(i));
        }
        Yards.put(x, "yard kerf 0 keep 1;kind 9 1;order 30 3 0 0");
        x.load(42);
        for (int i : new int[] {0, 1, -1, Integer.MAX_VALUE, Integer.MIN_VALUE}) {
            Snapshot.refused(CHECK, "45: before the first text", Check.INDEX, x, () -> x.textByte(i));
        }
        CHECK.same("44: bytes of 30x3 0+0/3 d0", x.writeOrder(0), 13);
        CHECK.same("45: the first byte", x.textByte(0), '3');
        CHECK.same("45: the last byte", x.textByte(12), '0');
        Snapshot.refusedBeyond(CHECK, "45: byte of thirteen", Check.INDEX, x, 13, x::textByte);
        x.writeRods();
        CHECK.same("45: the only byte", x.textByte(0), '-');
        Snapshot.refusedBeyond(CHECK, "45: byte of one", Check.INDEX, x, 1, x::textByte);
    }

    /** "it stays until the next text, also behind load, undo and restore" */
    private static void textStays() {
        RodYard x = Yards.of("yard kerf 0 keep 1;kind 9 1;rods 0 2");
        x.save(0);
        x.buy(0);
        textIs("43: three", x, x.writeRods(), "0:9,1:9,2:9");
        x.undo();
        textIs("45: behind undo", x, 11, "0:9,1:9,2:9");
        x.restore(0);
        textIs("45: behind restore", x, 11, "0:9,1:9,2:9");
        x.cutPiece(0, 9);
        x.endRound();
        textIs("45: behind changes", x, 11, "0:9,1:9,2:9");
        Yards.put(x, EMPTY);
        textIs("45: behind append", x, 11, "0:9,1:9,2:9");
        x.load(EMPTY.length());
        textIs("45: behind load", x, 11, "0:9,1:9,2:9");
        textIs("43: the next text", x, x.writeRods(), "-");
    }

    /** "A call of a method that throws an exception changes nothing": not the text either. */
    private static void refusedTextStays() {
        RodYard x = Yards.of("yard kerf 0 keep 1;kind 9 1;rods 0 2");
        x.writeRods();
        Snapshot.refused(CHECK, "44: writeOrder(0) of none", Check.INDEX, x, () -> x.writeOrder(0));
        Yards.put(x, "A");
        CHECK.fails("3: a wrong text", Check.ARGUMENT, () -> x.load(1));
        textIs("45: behind a wrong text", x, 7, "0:9,1:9");
    }
}
