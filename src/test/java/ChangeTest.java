/** Promises 46 to 58: changes, undo, save and restore. */
public final class ChangeTest {
    private static final Check CHECK = new Check();
    private static final String TEXT = "yard kerf 2 keep 20;kind 100 3;kind 60 5;rods 0 2;rods 1 1;order 40 3 10 1;"
            + "order 25 2 7 0;pattern 40 40;pattern 25 25 40";

    public static void main(String[] args) {
        cutPiece();
        takers();
        cutPattern();
        fill();
        endRound();
        buy();
        addOrder();
        cancelAndScrap();
        setSetting();
        undoOfEachChange();
        anotherInPlace();
        undoOfNothing();
        eightChanges();
        failuresAreNoChanges();
        saveAndRestore();
        CHECK.end();
    }

    /** All that the face tells of the state, as one text. */
    static String all(RodYard x) {
        StringBuilder out = new StringBuilder();
        out.append(x.round()).append(' ').append(x.setting(0)).append(' ').append(x.setting(1)).append('\n');
        for (int r = 0; r < x.count(1); r++) {
            for (int what = 0; what < 5; what++) {
                out.append(x.rod(r, what)).append(' ');
            }
        }
        out.append('\n');
        for (int o = 0; o < x.count(2); o++) {
            for (int what = 0; what < 8; what++) {
                out.append(x.order(o, what)).append(' ');
            }
        }
        out.append('\n');
        for (int length = 1; length <= 200; length++) {
            if (x.stored(length) != 0) {
                out.append(length).append('x').append(x.stored(length)).append(' ');
            }
        }
        out.append('\n');
        for (int k = 0; k < x.cuts(); k++) {
            for (int what = 0; what < 4; what++) {
                out.append(x.cut(k, what)).append(' ');
            }
        }
        out.append('\n');
        for (int what = 0; what < 8; what++) {
            out.append(x.account(what)).append(' ');
        }
        return out.toString();
    }

    private static void cutPiece() {
        RodYard x = Yards.of(TEXT);
        CHECK.same("cutPiece(2, 25)", x.cutPiece(2, 25), 1);
        CHECK.same("cutPiece(2, 30)", x.cutPiece(2, 30), -1);
        CHECK.same("what is left", x.rod(2, 1), 1);
        CHECK.same("stored", x.stored(30), 1);
        CHECK.fails("cutPiece(2, 2)", Check.ARGUMENT, () -> x.cutPiece(2, 2));
        CHECK.same("cutPiece(2, 1)", x.cutPiece(2, 1), -1);
        CHECK.same("used up", x.rod(2, 2), 1);
        CHECK.fails("cutPiece of a used up rod", Check.ARGUMENT, () -> x.cutPiece(2, 1));
        x.scrap(1);
        CHECK.fails("cutPiece of a scrapped rod", Check.ARGUMENT, () -> x.cutPiece(1, 1));
        CHECK.fails("cutPiece(0, 0)", Check.ARGUMENT, () -> x.cutPiece(0, 0));
        CHECK.fails("cutPiece(0, 201)", Check.ARGUMENT, () -> x.cutPiece(0, 201));
        CHECK.fails("cutPiece(0, 101)", Check.ARGUMENT, () -> x.cutPiece(0, 101));
        CHECK.fails("cutPiece(3, 0): the rod comes first", Check.INDEX, () -> x.cutPiece(3, 0));
        CHECK.fails("cutPiece(-1, 1)", Check.INDEX, () -> x.cutPiece(-1, 1));
        CHECK.same("cutPiece(0, 100)", x.cutPiece(0, 100), -1);
    }

    private static void takers() {
        RodYard x = Yards.of("yard kerf 0 keep 1;kind 100 1;rods 0 1;order 5 1 1 9;order 5 1 1 3;order 6 1 1 0;"
                + "order 5 1 1 3;order 5 1 1 2");
        x.cancel(4);
        CHECK.same("the least DUE, of these the smallest number", x.cutPiece(0, 5), 1);
        CHECK.same("then the next", x.cutPiece(0, 5), 3);
        x.endRound();
        CHECK.same("then the latest", x.cutPiece(0, 5), 0);
        CHECK.same("then the store", x.cutPiece(0, 5), -1);
        CHECK.same("cancelled orders get nothing", x.order(4, 5) + x.order(4, 6), 0);
    }

    private static void cutPattern() {
        RodYard x = Yards.of(TEXT);
        CHECK.same("cutPattern(1, 0)", x.cutPattern(1, 0), 0);
        CHECK.same("what is left", x.rod(0, 1), 4);
        CHECK.same("pieces", x.rod(0, 3), 3);
        CHECK.same("one change", x.undoable(), 1);
        CHECK.same("cutPattern(1, 1): 25 twice into the store", x.cutPattern(1, 1), 2);
        CHECK.same("stored(25)", x.stored(25), 2);
        CHECK.same("order of the cuts", x.cut(5, 2), 40);
        CHECK.fails("cutPattern(0, 2)", Check.ARGUMENT, () -> x.cutPattern(0, 2));
        CHECK.fails("cutPattern(2, 0)", Check.INDEX, () -> x.cutPattern(2, 0));
        CHECK.fails("cutPattern(0, 3)", Check.INDEX, () -> x.cutPattern(0, 3));
        CHECK.fails("cutPattern(-1, -1)", Check.INDEX, () -> x.cutPattern(-1, -1));
        CHECK.same("still two changes", x.undoable(), 2);
    }

    private static void fill() {
        for (int policy = 0; policy < 4; policy++) {
            RodYard x = Yards.of(TEXT);
            int loss = x.lossIf(policy);
            CHECK.same("fill " + policy, x.fill(policy), 5);
            CHECK.same("fill " + policy + ": lacking", x.count(6), 0);
            CHECK.same("fill " + policy + ": cuts", x.cuts(), 5);
            CHECK.same("fill " + policy + ": one change", x.undoable(), 1);
            x.endRound();
            CHECK.same("fill " + policy + ": loss", x.account(3), loss);
            CHECK.same("fill " + policy + " again", x.fill(policy), 0);
            CHECK.same("fill " + policy + " again is a change", x.undoable(), 3);
        }
        RodYard x = Yards.of(TEXT);
        // DUE 0 comes first: 25 25 40 of rod 0, then 40 40 of rod 1.
        x.fill(0);
        int[] lengths = {25, 25, 40, 40, 40};
        int[] rods = {0, 0, 0, 1, 1};
        for (int k = 0; k < 5; k++) {
            CHECK.same("policy 0: length of cut " + k, x.cut(k, 2), lengths[k]);
            CHECK.same("policy 0: rod of cut " + k, x.cut(k, 1), rods[k]);
        }
        x.undo();
        // 40 of 60, 40 and 40 of 100; then 25 of the other 100 twice, as 18 and 16 are too short.
        x.fill(1);
        int[] bestFit = {2, 0, 0, 1, 1};
        for (int k = 0; k < 5; k++) {
            CHECK.same("policy 1: rod of cut " + k, x.cut(k, 1), bestFit[k]);
        }
        x.undo();
        // 100 100 60: 40 of 0, of 1, of 2; 25 of 0 and of 1 (58 each, 18)
        x.fill(2);
        int[] worstFit = {0, 1, 2, 0, 1};
        for (int k = 0; k < 5; k++) {
            CHECK.same("policy 2: rod of cut " + k, x.cut(k, 1), worstFit[k]);
        }
        x.undo();
        // The pattern 40 40 once, then it is not wanted; then 25 25 40.
        x.fill(3);
        int[] byPatterns = {40, 40, 25, 25, 40};
        for (int k = 0; k < 5; k++) {
            CHECK.same("policy 3: length of cut " + k, x.cut(k, 2), byPatterns[k]);
        }
        CHECK.fails("fill(4)", Check.ARGUMENT, () -> x.fill(4));
        CHECK.fails("fill(-1)", Check.ARGUMENT, () -> x.fill(-1));
    }

    private static void endRound() {
        RodYard x = Yards.of(TEXT);
        x.setSetting(1, 70);
        x.cutPiece(0, 28); // leaves 70
        x.cutPiece(1, 29); // leaves 69
        CHECK.same("69 is lost; 60 was not cut, 70 is kept", x.endRound(), 69);
        CHECK.same("rod 0", x.rod(0, 1), 70);
        CHECK.same("rod 1", x.rod(1, 2), 2);
        CHECK.same("rod 2", x.rod(2, 1), 60);
        x.setSetting(1, 200);
        CHECK.same("nothing was cut in this round", x.endRound(), 0);
        x.cutPiece(0, 70);
        x.cutPiece(2, 10);
        x.scrap(2);
        CHECK.same("rods that are not in stock", x.endRound(), 0);
        CHECK.same("used up stays used up", x.rod(0, 2), 1);
        CHECK.same("scrapped once", x.account(2), 69 + 48);
        CHECK.same("round", x.round(), 3);
    }

    private static void buy() {
        RodYard x = Yards.of(TEXT);
        CHECK.same("buy(1)", x.buy(1), 3);
        CHECK.same("its kind", x.rod(3, 0), 1);
        CHECK.same("its length", x.rod(3, 1), 60);
        CHECK.same("its state", x.rod(3, 2), 0);
        CHECK.same("its pieces", x.rod(3, 3), 0);
        CHECK.same("what it costs", x.account(0), 300);
        CHECK.fails("buy(2)", Check.INDEX, () -> x.buy(2));
        CHECK.fails("buy(-1)", Check.INDEX, () -> x.buy(-1));
        for (int r = 4; r < 40; r++) {
            CHECK.same("buy(0)", x.buy(0), r);
        }
        x.scrap(5);
        CHECK.fails("a 41st rod", Check.ARGUMENT, () -> x.buy(0));
        CHECK.fails("a 41st rod of no kind", Check.INDEX, () -> x.buy(2));
        CHECK.same("rods", x.count(1), 40);
        CHECK.same("what they cost", x.account(0), 300 * 37);
    }

    private static void addOrder() {
        RodYard x = Yards.of(TEXT);
        for (int i = 0; i < 3; i++) {
            x.cutPiece(0, 10);
        }
        x.endRound();
        CHECK.same("addOrder late", x.addOrder(10, 2, 9, 0), 2);
        CHECK.same("late", x.order(2, 6), 2);
        CHECK.same("earned", x.account(4), 8);
        CHECK.same("stored", x.stored(10), 1);
        CHECK.same("addOrder in time", x.addOrder(10, 3, 99, 999), 3);
        CHECK.same("in time", x.order(3, 5), 1);
        CHECK.same("lacking", x.order(3, 4), 2);
        CHECK.same("earned", x.account(4), 107);
        CHECK.same("stored", x.stored(10), 0);
        CHECK.same("pieces cut", x.account(5), 3);
        int[][] wrong = {{0, 1, 0, 0}, {201, 1, 0, 0}, {1, 0, 0, 0}, {1, 10, 0, 0}, {1, 1, -1, 0}, {1, 1, 100, 0},
            {1, 1, 0, -1}, {1, 1, 0, 1000}};
        for (int[] w : wrong) {
            CHECK.fails("addOrder with " + java.util.Arrays.toString(w), Check.ARGUMENT,
                    () -> x.addOrder(w[0], w[1], w[2], w[3]));
        }
        CHECK.same("orders", x.count(2), 4);
        CHECK.same("least", x.addOrder(1, 1, 0, 0), 4);
        CHECK.same("greatest", x.addOrder(200, 9, 99, 999), 5);
        for (int o = 6; o < 16; o++) {
            CHECK.same("addOrder", x.addOrder(7, 1, 1, 1), o);
        }
        x.cancel(0);
        CHECK.fails("a 17th order", Check.ARGUMENT, () -> x.addOrder(7, 1, 1, 1));
        CHECK.same("orders", x.count(2), 16);
    }

    private static void cancelAndScrap() {
        RodYard x = Yards.of(TEXT);
        x.cutPiece(0, 40);
        CHECK.same("cancel(0)", x.cancel(0), 2);
        CHECK.same("it lacks none", x.order(0, 4), 0);
        CHECK.same("COUNT stays", x.order(0, 1), 3);
        CHECK.fails("cancel(0) again", Check.ARGUMENT, () -> x.cancel(0));
        x.cutPiece(0, 25);
        x.cutPiece(1, 25);
        CHECK.fails("cancel of a filled order", Check.ARGUMENT, () -> x.cancel(1));
        CHECK.fails("cancel(2)", Check.INDEX, () -> x.cancel(2));
        CHECK.fails("cancel(-1)", Check.INDEX, () -> x.cancel(-1));
        CHECK.same("scrap(2)", x.scrap(2), 60);
        CHECK.same("cost", x.account(3), 3 * 2 * 3 + 300);
        CHECK.same("its length", x.rod(2, 1), 0);
        CHECK.same("its state", x.rod(2, 2), 2);
        CHECK.same("it was not cut", x.rod(2, 4), 0);
        CHECK.fails("scrap(2) again", Check.ARGUMENT, () -> x.scrap(2));
        x.cutPiece(1, 73);
        CHECK.fails("scrap of a used up rod", Check.ARGUMENT, () -> x.scrap(1));
        CHECK.fails("scrap(3)", Check.INDEX, () -> x.scrap(3));
        CHECK.fails("scrap(-1)", Check.INDEX, () -> x.scrap(-1));
    }

    private static void setSetting() {
        RodYard x = Yards.of(TEXT);
        CHECK.same("KERF", x.setSetting(0, 9), 2);
        CHECK.same("KERF", x.setSetting(0, 0), 9);
        CHECK.same("KEEP", x.setSetting(1, 200), 20);
        CHECK.same("KEEP", x.setSetting(1, 1), 200);
        CHECK.same("the same again", x.setSetting(1, 1), 1);
        CHECK.same("five changes", x.undoable(), 5);
        int[][] wrong = {{0, -1}, {0, 10}, {1, 0}, {1, 201}, {2, 1}, {-1, 1}, {Integer.MAX_VALUE, 1}};
        for (int[] w : wrong) {
            CHECK.fails("setSetting(" + w[0] + ", " + w[1] + ")", Check.ARGUMENT, () -> x.setSetting(w[0], w[1]));
        }
        CHECK.same("KERF", x.setting(0), 0);
        CHECK.same("KEEP", x.setting(1), 1);
        x.cutPiece(0, 60);
        CHECK.same("cut without kerf", x.rod(0, 1), 40);
    }

    private static void change(RodYard x, int number) {
        switch (number) {
            case 0:
                x.cutPiece(0, 30);
                break;
            case 1:
                x.cutPattern(1, 1);
                break;
            case 2:
                x.fill(1);
                break;
            case 3:
                x.endRound();
                break;
            case 4:
                x.buy(1);
                break;
            case 5:
                x.addOrder(30, 2, 5, 0);
                break;
            case 6:
                x.cancel(2);
                break;
            case 7:
                x.scrap(3);
                break;
            default:
                x.setSetting(1, 77);
        }
    }

    private static void undoOfEachChange() {
        RodYard x = Yards.of(TEXT);
        String[] ahead = new String[9];
        for (int i = 0; i < 9; i++) {
            ahead[i] = all(x);
            change(x, i);
            CHECK.same("change " + i + " shows", all(x).equals(ahead[i]), false);
            CHECK.same("undoable behind change " + i, x.undoable(), Math.min(i + 1, 8));
        }
        for (int i = 8; i >= 1; i--) {
            CHECK.same("undo", x.undo(), i - 1);
            CHECK.sameText("behind undo of change " + i, all(x), ahead[i]);
        }
        CHECK.fails("the ninth is not kept", Check.STATE, x::undo);
        CHECK.sameText("nothing changes", all(x), ahead[1]);
    }

    /** What was undone must not show in what comes in its place. */
    private static void anotherInPlace() {
        RodYard x = Yards.of(TEXT);
        for (int i = 0; i < 2; i++) {
            x.addOrder(30, 2, 5, 0);
            x.buy(0);
            CHECK.same("a new rod in stock", x.rod(3, 2), 0);
            CHECK.same("a new rod without pieces", x.rod(3, 3), 0);
            CHECK.same("a new rod is not cut", x.rod(3, 4), 0);
            CHECK.same("a new order with none in time", x.order(2, 5), 0);
            CHECK.same("a new order with none late", x.order(2, 6), 0);
            CHECK.same("a new order is not cancelled", x.order(2, 7), 0);
            CHECK.same("a new order lacks all", x.order(2, 4), 2);
            x.cutPiece(3, 30);
            x.endRound();
            x.cutPiece(3, 10);
            x.addOrder(10, 1, 1, 0);
            x.cancel(2);
            x.scrap(3);
            for (int undos = 0; undos < 8; undos++) {
                x.undo();
            }
            x.restore(save(x));
        }
        // The same numbers of cuts, but other ones.
        x.cutPiece(0, 11);
        x.save(1);
        x.undo();
        x.cutPiece(1, 12);
        x.restore(1);
        CHECK.same("the cut's rod", x.cut(0, 1), 0);
        CHECK.same("the cut's length", x.cut(0, 2), 11);
    }

    private static int save(RodYard x) {
        x.save(0);
        return 0;
    }

    private static void undoOfNothing() {
        RodYard x = Yards.of("yard kerf 0 keep 1;kind 9 1");
        CHECK.fails("undo of nothing", Check.STATE, x::undo);
        x.fill(3);
        x.setSetting(0, 0);
        CHECK.same("a change that changes nothing counts", x.undoable(), 2);
        x.endRound();
        CHECK.same("undo", x.undo(), 2);
        CHECK.same("round", x.round(), 0);
        CHECK.same("undo", x.undo(), 1);
        CHECK.same("undo", x.undo(), 0);
        CHECK.same("undoable", x.undoable(), 0);
        CHECK.fails("undo of nothing", Check.STATE, x::undo);
    }

    private static void eightChanges() {
        RodYard x = Yards.of("yard kerf 0 keep 1;kind 9 1");
        for (int i = 0; i < 20; i++) {
            x.endRound();
        }
        CHECK.same("eight are kept", x.undoable(), 8);
        CHECK.same("undo", x.undo(), 7);
        CHECK.same("undo", x.undo(), 6);
        CHECK.same("undo", x.undo(), 5);
        CHECK.same("round", x.round(), 17);
        for (int i = 0; i < 5; i++) {
            x.endRound();
            CHECK.same("undoable", x.undoable(), Math.min(6 + i, 8));
        }
        CHECK.same("round", x.round(), 22);
        for (int i = 7; i >= 0; i--) {
            CHECK.same("undo", x.undo(), i);
        }
        CHECK.same("round", x.round(), 14);
        CHECK.fails("no more", Check.STATE, x::undo);
    }

    private static void failuresAreNoChanges() {
        RodYard x = Yards.of(TEXT);
        x.cutPiece(0, 40);
        String ahead = all(x);
        CHECK.fails("cutPiece", Check.ARGUMENT, () -> x.cutPiece(0, 90));
        CHECK.fails("cutPattern", Check.ARGUMENT, () -> x.cutPattern(0, 0));
        CHECK.fails("fill", Check.ARGUMENT, () -> x.fill(4));
        CHECK.fails("buy", Check.INDEX, () -> x.buy(4));
        CHECK.fails("addOrder", Check.ARGUMENT, () -> x.addOrder(1, 1, 1, 1000));
        CHECK.fails("cancel", Check.INDEX, () -> x.cancel(2));
        CHECK.fails("scrap", Check.INDEX, () -> x.scrap(3));
        CHECK.fails("setSetting", Check.ARGUMENT, () -> x.setSetting(0, 10));
        CHECK.fails("save", Check.INDEX, () -> x.save(2));
        CHECK.fails("restore", Check.STATE, () -> x.restore(1));
        CHECK.sameText("behind failures", all(x), ahead);
        CHECK.same("undoable", x.undoable(), 1);
    }

    private static void saveAndRestore() {
        RodYard x = Yards.of(TEXT);
        x.cutPiece(0, 30);
        x.endRound();
        CHECK.same("save(0)", x.save(0), 1);
        CHECK.same("save is no change, and forgets none", x.undoable(), 2);
        String first = all(x);
        x.fill(2);
        x.buy(0);
        x.addOrder(30, 3, 3, 3);
        x.setSetting(0, 7);
        x.cancel(2);
        x.endRound();
        CHECK.fails("restore(1) of nothing", Check.STATE, () -> x.restore(1));
        CHECK.same("save(1)", x.save(1), 2);
        String second = all(x);
        CHECK.same("restore(0)", x.restore(0), 1);
        CHECK.sameText("the first state", all(x), first);
        CHECK.same("nothing can be undone", x.undoable(), 0);
        CHECK.fails("undo", Check.STATE, x::undo);
        x.scrap(0);
        CHECK.same("undo behind restore", x.undo(), 0);
        x.scrap(1);
        CHECK.same("restore(1)", x.restore(1), 2);
        CHECK.sameText("the second state", all(x), second);
        x.fill(1);
        x.undo();
        CHECK.same("restore(0) again", x.restore(0), 1);
        CHECK.sameText("it stays saved", all(x), first);
        x.endRound();
        x.endRound();
        CHECK.same("save(0) in place of what was there", x.save(0), 3);
        x.undo();
        x.undo();
        CHECK.same("restore(0)", x.restore(0), 3);
        for (int slot : new int[] {-1, 2, Integer.MAX_VALUE}) {
            CHECK.fails("save(" + slot + ")", Check.INDEX, () -> x.save(slot));
            CHECK.fails("restore(" + slot + ")", Check.INDEX, () -> x.restore(slot));
        }
    }
}
