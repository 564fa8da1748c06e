/** Promises 8 to 24: what there is, and lengths. */
public final class ViewTest {
    private static final Check CHECK = new Check();

    public static void main(String[] args) {
        counts();
        lengthsOfTheStore();
        kindsAndRods();
        orders();
        patternsAndSettings();
        wantedAndStored();
        leftAndRodFor();
        sums();
        dues();
        CHECK.end();
    }

    private static RodYard yard() {
        return Yards.of("yard kerf 2 keep 20;kind 100 3;kind 60 5;rods 0 2;rods 1 1;order 40 3 10 1;order 25 2 7 0;"
                + "pattern 40 40;pattern 25 25 40");
    }

    private static void counts() {
        RodYard x = yard();
        int[] first = {2, 3, 2, 2, 3, 2, 5, 0};
        for (int what = 0; what < 8; what++) {
            CHECK.same("count " + what, x.count(what), first[what]);
        }
        x.cutPiece(2, 60); // used up, into the store
        x.scrap(1);
        x.cutPiece(0, 30);
        x.cutPiece(0, 30);
        x.cancel(0);
        int[] later = {2, 3, 2, 2, 1, 1, 2, 3};
        for (int what = 0; what < 8; what++) {
            CHECK.same("count " + what + " later", x.count(what), later[what]);
        }
        x.cutPiece(0, 25);
        CHECK.same("open orders", x.count(5), 1);
        x.buy(1);
        x.cutPiece(3, 25);
        CHECK.same("no open order", x.count(5), 0);
        CHECK.same("nothing is lacking", x.count(6), 0);
        CHECK.fails("count(-1)", Check.ARGUMENT, () -> x.count(-1));
        CHECK.fails("count(8)", Check.ARGUMENT, () -> x.count(8));
        CHECK.fails("count(least)", Check.ARGUMENT, () -> x.count(Integer.MIN_VALUE));
    }

    private static void lengthsOfTheStore() {
        RodYard x = Yards.of("yard kerf 0 keep 1;kind 200 1;rods 0 2");
        x.cutPiece(0, 200);
        x.cutPiece(1, 1);
        x.cutPiece(1, 198);
        CHECK.same("pieces in the store", x.count(7), 3);
        CHECK.same("a rod with the length 1", x.longest(), 1);
        x.save(0);
        x.endRound();
        x.addOrder(200, 1, 1, 1);
        x.restore(0);
        CHECK.same("stored(200) behind restore", x.stored(200), 1);
        CHECK.same("stored(198) behind restore", x.stored(198), 1);
    }

    private static void kindsAndRods() {
        RodYard x = yard();
        CHECK.same("LENGTH", x.kind(0, false), 100);
        CHECK.same("PRICE", x.kind(0, true), 3);
        CHECK.same("PRICE", x.kind(1, true), 5);
        CHECK.fails("kind(-1)", Check.INDEX, () -> x.kind(-1, false));
        CHECK.fails("kind(2)", Check.INDEX, () -> x.kind(2, false));
        rodIs(x, 1, 0, 100, 0, 0, 0);
        rodIs(x, 2, 1, 60, 0, 0, 0);
        x.cutPiece(1, 40);
        rodIs(x, 1, 0, 58, 0, 1, 1);
        x.cutPiece(1, 57); // what is left is less than KERF, and lost
        rodIs(x, 1, 0, 0, 1, 2, 1);
        x.cutPiece(2, 41);
        rodIs(x, 2, 1, 17, 0, 1, 1);
        x.cutPiece(0, 20);
        x.scrap(0);
        rodIs(x, 0, 0, 0, 2, 1, 1);
        x.endRound();
        rodIs(x, 0, 0, 0, 2, 1, 0);
        rodIs(x, 1, 0, 0, 1, 2, 0);
        rodIs(x, 2, 1, 0, 2, 1, 0);
        CHECK.fails("rod(-1, 0)", Check.INDEX, () -> x.rod(-1, 0));
        CHECK.fails("rod(3, 9): the rod comes first", Check.INDEX, () -> x.rod(3, 9));
        CHECK.fails("rod(2, 5)", Check.ARGUMENT, () -> x.rod(2, 5));
        CHECK.fails("rod(2, -1)", Check.ARGUMENT, () -> x.rod(2, -1));
    }

    private static void rodIs(RodYard x, int rod, int... due) {
        for (int what = 0; what < 5; what++) {
            CHECK.same("rod(" + rod + ", " + what + ")", x.rod(rod, what), due[what]);
        }
    }

    private static void orders() {
        RodYard x = yard();
        orderIs(x, 0, 40, 3, 10, 1, 3, 0, 0, 0);
        orderIs(x, 1, 25, 2, 7, 0, 2, 0, 0, 0);
        x.cutPiece(0, 25);
        x.endRound();
        x.cutPiece(0, 25); // round 1 is behind DUE 0, but not behind DUE 1
        x.cutPiece(1, 40);
        orderIs(x, 0, 40, 3, 10, 1, 2, 1, 0, 0);
        orderIs(x, 1, 25, 2, 7, 0, 0, 1, 1, 0);
        x.cancel(0);
        orderIs(x, 0, 40, 3, 10, 1, 0, 1, 0, 1);
        CHECK.fails("order(-1, 0)", Check.INDEX, () -> x.order(-1, 0));
        CHECK.fails("order(2, 8): the order comes first", Check.INDEX, () -> x.order(2, 8));
        CHECK.fails("order(1, 8)", Check.ARGUMENT, () -> x.order(1, 8));
        CHECK.fails("order(1, -1)", Check.ARGUMENT, () -> x.order(1, -1));
    }

    private static void orderIs(RodYard x, int order, int... due) {
        for (int what = 0; what < 8; what++) {
            CHECK.same("order(" + order + ", " + what + ")", x.order(order, what), due[what]);
        }
    }

    private static void patternsAndSettings() {
        RodYard x = yard();
        CHECK.same("patternSize", x.patternSize(0), 2);
        CHECK.same("patternSize", x.patternSize(1), 3);
        CHECK.fails("patternSize(-1)", Check.INDEX, () -> x.patternSize(-1));
        CHECK.fails("patternSize(2)", Check.INDEX, () -> x.patternSize(2));
        CHECK.same("patternLength", x.patternLength(1, 0), 25);
        CHECK.same("patternLength", x.patternLength(1, 2), 40);
        CHECK.fails("patternLength(-1, 0)", Check.INDEX, () -> x.patternLength(-1, 0));
        CHECK.fails("patternLength(6, 0)", Check.INDEX, () -> x.patternLength(6, 0));
        CHECK.fails("patternLength(2, 0)", Check.INDEX, () -> x.patternLength(2, 0));
        CHECK.fails("patternLength(0, 2)", Check.INDEX, () -> x.patternLength(0, 2));
        CHECK.fails("patternLength(0, -1)", Check.INDEX, () -> x.patternLength(0, -1));
        CHECK.same("KERF", x.setting(0), 2);
        CHECK.same("KEEP", x.setting(1), 20);
        x.setSetting(0, 9);
        x.setSetting(1, 200);
        CHECK.same("KERF as it is now", x.setting(0), 9);
        CHECK.same("KEEP as it is now", x.setting(1), 200);
        CHECK.fails("setting(-1)", Check.ARGUMENT, () -> x.setting(-1));
        CHECK.fails("setting(2)", Check.ARGUMENT, () -> x.setting(2));
        CHECK.same("round", x.round(), 0);
        x.endRound();
        x.endRound();
        CHECK.same("round", x.round(), 2);
    }

    private static void wantedAndStored() {
        RodYard x = yard();
        x.addOrder(40, 2, 0, 999);
        CHECK.same("wanted(40) in two orders", x.wanted(40), 5);
        CHECK.same("wanted(25)", x.wanted(25), 2);
        CHECK.same("wanted(200)", x.wanted(200), 0);
        CHECK.same("wanted(1)", x.wanted(1), 0);
        x.cancel(0);
        CHECK.same("wanted(40) behind cancel", x.wanted(40), 2);
        x.cutPiece(0, 40);
        CHECK.same("wanted(40) behind a cut", x.wanted(40), 1);
        CHECK.same("stored(40)", x.stored(40), 0);
        x.cutPiece(0, 1);
        x.cutPiece(1, 1);
        CHECK.same("stored(1)", x.stored(1), 2);
        RodYard y = Yards.of("yard kerf 0 keep 1;kind 200 1;rods 0 1");
        y.cutPiece(0, 200);
        CHECK.same("stored(200)", y.stored(200), 1);
        for (int length : new int[] {0, 201, -1, Integer.MAX_VALUE, Integer.MIN_VALUE}) {
            CHECK.fails("wanted(" + length + ")", Check.ARGUMENT, () -> x.wanted(length));
            CHECK.fails("stored(" + length + ")", Check.ARGUMENT, () -> x.stored(length));
            CHECK.fails("left(0, " + length + ")", Check.ARGUMENT, () -> x.left(0, length));
            CHECK.fails("rodFor(" + length + ", 0)", Check.ARGUMENT, () -> x.rodFor(length, 0));
        }
    }

    private static void leftAndRodFor() {
        RodYard x = yard();
        CHECK.same("left(2, 57)", x.left(2, 57), 1);
        CHECK.same("left(2, 58)", x.left(2, 58), 0);
        CHECK.same("left(2, 59)", x.left(2, 59), 0);
        CHECK.same("left(2, 60)", x.left(2, 60), 0);
        CHECK.same("left(2, 61)", x.left(2, 61), -1);
        CHECK.fails("left(3, 0): the rod comes first", Check.INDEX, () -> x.left(3, 0));
        CHECK.fails("left(-1, 1)", Check.INDEX, () -> x.left(-1, 1));
        CHECK.same("rodFor(60, 0)", x.rodFor(60, 0), 0);
        CHECK.same("rodFor(60, 1)", x.rodFor(60, 1), 2);
        CHECK.same("rodFor(60, 2)", x.rodFor(60, 2), 0);
        CHECK.same("rodFor(61, 1): of several the smallest number", x.rodFor(61, 1), 0);
        CHECK.same("rodFor(101, 2)", x.rodFor(101, 2), -1);
        x.cutPiece(0, 58); // 100, 60 -> 40, 100, 60
        CHECK.same("rodFor(40, 0)", x.rodFor(40, 0), 0);
        CHECK.same("rodFor(40, 1)", x.rodFor(40, 1), 0);
        CHECK.same("rodFor(40, 2)", x.rodFor(40, 2), 1);
        CHECK.same("rodFor(41, 0)", x.rodFor(41, 0), 1);
        CHECK.same("rodFor(41, 1)", x.rodFor(41, 1), 2);
        x.scrap(0);
        x.cutPiece(1, 100);
        CHECK.same("left of a scrapped rod", x.left(0, 1), -1);
        CHECK.same("left of a used up rod", x.left(1, 1), -1);
        CHECK.same("rodFor passes rods that are not in stock", x.rodFor(1, 0), 2);
        CHECK.fails("rodFor(1, 3)", Check.ARGUMENT, () -> x.rodFor(1, 3));
        CHECK.fails("rodFor(1, -1)", Check.ARGUMENT, () -> x.rodFor(1, -1));
        x.scrap(2);
        CHECK.same("rodFor without stock", x.rodFor(1, 1), -1);
    }

    private static void sums() {
        RodYard x = yard();
        CHECK.same("longest: of several the smallest number", x.longest(), 0);
        CHECK.same("total", x.total(), 260);
        CHECK.same("worth", x.worth(), 900);
        x.cutPiece(0, 40);
        CHECK.same("longest", x.longest(), 1);
        CHECK.same("total", x.total(), 218);
        CHECK.same("worth", x.worth(), 58 * 3 + 300 + 300);
        x.scrap(1);
        CHECK.same("longest", x.longest(), 2);
        CHECK.same("total", x.total(), 118);
        CHECK.same("worth", x.worth(), 58 * 3 + 300);
        x.scrap(0);
        x.cutPiece(2, 60);
        CHECK.same("longest without stock", x.longest(), -1);
        CHECK.same("total without stock", x.total(), 0);
        CHECK.same("worth without stock", x.worth(), 0);
    }

    private static void dues() {
        RodYard x = yard();
        CHECK.same("firstDue", x.firstDue(), 1);
        x.addOrder(30, 4, 0, 0);
        CHECK.same("firstDue: of several the smallest number", x.firstDue(), 1);
        CHECK.same("overdue at round 0", x.overdue(), 0);
        x.endRound();
        CHECK.same("overdue at round 1", x.overdue(), 6);
        x.cutPiece(0, 25);
        CHECK.same("overdue behind a cut", x.overdue(), 5);
        x.cancel(1);
        CHECK.same("overdue behind cancel", x.overdue(), 4);
        CHECK.same("firstDue behind cancel", x.firstDue(), 2);
        x.endRound();
        CHECK.same("overdue at round 2", x.overdue(), 7);
        x.cancel(2);
        CHECK.same("firstDue", x.firstDue(), 0);
        x.cancel(0);
        CHECK.same("firstDue without open orders", x.firstDue(), -1);
        CHECK.same("overdue without open orders", x.overdue(), 0);
    }
}
