/** Promises 38 to 45: accounts, log and texts. */
public final class AccountTest {
    private static final Check CHECK = new Check();

    public static void main(String[] args) {
        accounts();
        means();
        log();
        fullLog();
        rodTexts();
        orderTexts();
        textBytes();
        CHECK.end();
    }

    private static void accountIs(String what, RodYard x, int... due) {
        for (int i = 0; i < 8; i++) {
            CHECK.same(what + ": account " + i, x.account(i), due[i]);
        }
    }

    private static void accounts() {
        RodYard x = Yards.of("yard kerf 2 keep 20;kind 100 3;kind 60 5;rods 0 2;rods 1 1;order 40 3 10 1;order 25 2 7 0");
        accountIs("at first: rods of the text are no purchase", x, 0, 0, 0, 0, 0, 0, 0, 0);
        x.cutPiece(2, 25); // 60 -> 33
        accountIs("in time", x, 0, 2, 0, 10, 7, 1, 0, 25);
        x.cutPiece(2, 32); // 33 -> 0, one unit for the kerf, into the store
        accountIs("store, short kerf", x, 0, 3, 0, 15, 7, 2, 0, 57);
        x.scrap(1);
        accountIs("scrap", x, 0, 3, 100, 315, 7, 2, 0, 57);
        x.cutPiece(0, 80); // 100 -> 18
        x.endRound();
        accountIs("end of the round", x, 0, 5, 118, 315 + 6 + 54, 7, 3, 0, 137);
        CHECK.same("buy", x.buy(0), 3);
        CHECK.same("buy", x.buy(1), 4);
        accountIs("purchases", x, 600, 5, 118, 375, 7, 3, 0, 137);
        x.cutPiece(3, 25); // late: 7 / 2
        accountIs("late", x, 600, 7, 118, 381, 10, 4, 1, 162);
        x.endRound(); // 73 is kept
        x.addOrder(80, 2, 9, 1); // late, from the store
        x.addOrder(32, 1, 8, 2); // in time, from the store
        accountIs("from the store", x, 600, 7, 118, 381, 10 + 4 + 8, 4, 2, 162);
        x.cutPiece(4, 60);
        accountIs("no unit for the kerf", x, 600, 7, 118, 381, 22, 5, 2, 222);
        x.cancel(0);
        accountIs("cancel", x, 600, 7, 118, 381, 22, 5, 2, 222);
        CHECK.fails("account(8)", Check.ARGUMENT, () -> x.account(8));
        CHECK.fails("account(-1)", Check.ARGUMENT, () -> x.account(-1));
    }

    private static void means() {
        RodYard x = Yards.of("yard kerf 1 keep 1;kind 10 7;rods 0 3");
        CHECK.sameReal("meanLoss without pieces", x.meanLoss(), 0.0);
        CHECK.sameReal("shareUsed without units", x.shareUsed(), 0.0);
        x.scrap(0);
        CHECK.sameReal("meanLoss without pieces", x.meanLoss(), 0.0);
        CHECK.sameReal("shareUsed without pieces", x.shareUsed(), 0.0);
        x.cutPiece(1, 3);
        CHECK.sameReal("meanLoss", x.meanLoss(), 77.0);
        CHECK.sameReal("shareUsed", x.shareUsed(), 3f / 14f);
        x.cutPiece(1, 3);
        x.cutPiece(2, 10);
        CHECK.sameReal("meanLoss", x.meanLoss(), 84.0 / 3.0);
        CHECK.sameReal("shareUsed", x.shareUsed(), 16f / 28f);
        x.cutPiece(1, 1);
        x.buy(0);
        x.cutPiece(3, 1);
        x.cutPiece(3, 1);
        x.cutPiece(3, 1);
        // 10 units are scrapped, and one is lost behind each of six pieces, but none behind the piece of 10.
        CHECK.sameReal("meanLoss", x.meanLoss(), 112.0 / 7.0);
        CHECK.sameReal("shareUsed", x.shareUsed(), 20f / 36f);
    }

    private static void cutIs(RodYard x, int k, int... due) {
        for (int what = 0; what < 4; what++) {
            CHECK.same("cut(" + k + ", " + what + ")", x.cut(k, what), due[what]);
        }
    }

    private static void log() {
        RodYard x = Yards.of("yard kerf 0 keep 1;kind 100 1;rods 0 2;order 10 1 1 1;order 20 2 1 1;pattern 20 10 20");
        CHECK.same("cuts at first", x.cuts(), 0);
        CHECK.fails("cut(0, 0)", Check.INDEX, () -> x.cut(0, 0));
        x.cutPiece(1, 30);
        x.endRound();
        x.cutPattern(0, 0);
        x.cutPiece(0, 10);
        CHECK.same("cuts", x.cuts(), 5);
        cutIs(x, 0, 0, 1, 30, -1);
        cutIs(x, 1, 1, 0, 20, 1);
        cutIs(x, 2, 1, 0, 10, 0);
        cutIs(x, 3, 1, 0, 20, 1);
        cutIs(x, 4, 1, 0, 10, -1);
        x.scrap(1);
        x.addOrder(30, 1, 1, 1);
        CHECK.same("nothing is cut by scrap and addOrder", x.cuts(), 5);
        CHECK.fails("cut(5, 9): the cut comes first", Check.INDEX, () -> x.cut(5, 9));
        CHECK.fails("cut(-1, 0)", Check.INDEX, () -> x.cut(-1, 0));
        CHECK.fails("cut(0, 4)", Check.ARGUMENT, () -> x.cut(0, 4));
        CHECK.fails("cut(0, -1)", Check.ARGUMENT, () -> x.cut(0, -1));
        x.undo();
        x.undo();
        x.undo();
        CHECK.same("cuts behind undo", x.cuts(), 4);
        CHECK.fails("cut(4, 0)", Check.INDEX, () -> x.cut(4, 0));
    }

    private static void fullLog() {
        RodYard x = Yards.of("yard kerf 0 keep 1;kind 200 1;rods 0 1");
        for (int i = 0; i < 59; i++) {
            x.cutPiece(0, 1);
        }
        CHECK.same("59 cuts", x.cuts(), 59);
        x.cutPiece(0, 2);
        x.cutPiece(0, 3);
        CHECK.same("60 cuts are kept", x.cuts(), 60);
        CHECK.same("the last that is kept", x.cut(59, 2), 2);
        CHECK.same("all pieces count", x.account(5), 61);
        CHECK.fails("cut(60, 0)", Check.INDEX, () -> x.cut(60, 0));
        x.undo();
        x.undo();
        CHECK.same("59 cuts again", x.cuts(), 59);
        x.cutPiece(0, 4);
        CHECK.same("another 60th cut", x.cut(59, 2), 4);
    }

    private static void rodTexts() {
        RodYard x = Yards.of("yard kerf 0 keep 1;kind 100 1;kind 7 1;rods 0 9;rods 1 2");
        for (int r = 1; r < 8; r++) {
            x.scrap(r);
        }
        x.cutPiece(8, 95);
        CHECK.sameText("writeRods", Yards.text(x, x.writeRods()), "0:100,8:5*,9:7,10:7");
        x.endRound();
        x.cutPiece(9, 7);
        x.cutPiece(0, 90);
        CHECK.sameText("writeRods", Yards.text(x, x.writeRods()), "0:10*,8:5,10:7");
        x.scrap(0);
        CHECK.sameText("writeRods", Yards.text(x, x.writeRods()), "8:5,10:7");
        x.scrap(8);
        x.scrap(10);
        CHECK.sameText("writeRods without stock", Yards.text(x, x.writeRods()), "-");
        RodYard y = Yards.of("yard kerf 0 keep 1;kind 200 1;rods 0 9;rods 0 9;rods 0 6");
        StringBuilder due = new StringBuilder();
        for (int r = 0; r < 40; r++) {
            if (r >= 24) {
                y.buy(0);
            }
            y.cutPiece(r, 1);
            due.append(r == 0 ? "" : ",").append(r).append(":199*");
        }
        CHECK.same("the longest text", y.writeRods(), due.length());
        CHECK.sameText("the longest text", Yards.text(y, due.length()), due.toString());
    }

    private static void orderTexts() {
        RodYard x = Yards.of("yard kerf 0 keep 1;kind 100 1;rods 0 9;order 40 3 10 1;order 200 9 0 99");
        CHECK.sameText("writeOrder(0)", Yards.text(x, x.writeOrder(0)), "40x3 0+0/3 d1");
        CHECK.sameText("writeOrder(1)", Yards.text(x, x.writeOrder(1)), "200x9 0+0/9 d99");
        x.cutPiece(0, 40);
        x.endRound();
        x.endRound();
        x.cutPiece(1, 40);
        CHECK.sameText("one late", Yards.text(x, x.writeOrder(0)), "40x3 1+1/1 d1");
        x.cancel(0);
        CHECK.sameText("cancelled", Yards.text(x, x.writeOrder(0)), "40x3 1+1/0 d1 gone");
        x.addOrder(5, 1, 99, 999);
        x.cutPiece(0, 5);
        CHECK.sameText("filled", Yards.text(x, x.writeOrder(2)), "5x1 1+0/0 d999");
        CHECK.fails("writeOrder(3)", Check.INDEX, () -> x.writeOrder(3));
        CHECK.fails("writeOrder(-1)", Check.INDEX, () -> x.writeOrder(-1));
        CHECK.sameText("the text stays", Yards.text(x, 14), "5x1 1+0/0 d999");
    }

    private static void textBytes() {
        RodYard x = Yards.of("yard kerf 0 keep 1;kind 100 1;rods 0 1;order 40 3 10 1");
        CHECK.fails("before the first text", Check.INDEX, () -> x.textByte(0));
        x.writeOrder(0);
        CHECK.same("byte 12", x.textByte(12), '1');
        CHECK.fails("byte 13", Check.INDEX, () -> x.textByte(13));
        CHECK.fails("byte -1", Check.INDEX, () -> x.textByte(-1));
        x.save(0);
        x.fill(0);
        x.undo();
        x.restore(0);
        Yards.put(x, "yard kerf 1 keep 2");
        x.load(18);
        CHECK.sameText("the text stays behind load, undo and restore", Yards.text(x, 13), "40x3 0+0/3 d1");
        CHECK.same("writeRods", x.writeRods(), 1);
        CHECK.same("the hyphen", x.textByte(0), '-');
        CHECK.fails("the longer text is gone", Check.INDEX, () -> x.textByte(1));
    }
}
