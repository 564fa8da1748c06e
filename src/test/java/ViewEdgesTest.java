/** Promises 8 to 24: each sentence that names a boundary has a test of its own, below its words. */
public final class ViewEdgesTest {
    private static final Check CHECK = new Check();
    private static final String EMPTY = "yard kerf 0 keep 1";
    private static final String SMALL = "yard kerf 2 keep 20;kind 100 3;kind 60 5;rods 0 2;rods 1 1;order 40 3 10 1;"
            + "order 25 2 7 0;pattern 40 40;pattern 25";

    public static void main(String[] args) {
        countsOfNothing();
        countsOfAll();
        countOutOfRange();
        rodsInStock();
        openOrders();
        lackingInOpenOrders();
        piecesInTheStore();
        noSuchKind();
        noSuchRod();
        rodOutOfRange();
        stateOfARod();
        piecesOfARod();
        cutInThisRound();
        noSuchOrder();
        orderOutOfRange();
        cancelledOrder();
        noSuchPattern();
        noSuchLengthOfAPattern();
        settingOutOfRange();
        settingNow();
        roundAtFirst();
        lengthOutOfRange();
        lengthsInRange();
        wantedInOpenOrders();
        storedOfALength();
        leftOfARod();
        leftWithoutStock();
        noSuchRodToCut();
        rodForPolicy();
        rodForNone();
        rodForSeveral();
        rodForWanted();
        longestRod();
        sumsOfNothing();
        sumsOfAll();
        sumsInStock();
        firstDueOrder();
        firstDueNone();
        overduePieces();
        CHECK.end();
    }

    /** A yard with 40 rods and 16 orders. */
    static RodYard full() {
        RodYard x = Yards.of(Yards.FULL);
        for (int i = 24; i < 40; i++) {
            x.buy(3);
        }
        for (int i = 12; i < 16; i++) {
            x.addOrder(200, 9, 99, 999);
        }
        return x;
    }

    // ---- promise 8

    /** "0 kinds, 1 rods, [..] 7 pieces in the store": nothing of each. */
    private static void countsOfNothing() {
        for (int what = 0; what < 8; what++) {
            CHECK.same("8: count " + what + " of nothing", Yards.of(EMPTY).count(what), 0);
        }
    }

    /** "0 kinds, 1 rods, [..] 7 pieces in the store": as many as there can be of each. */
    private static void countsOfAll() {
        RodYard x = full();
        int[] due = {4, 40, 16, 6, 40, 16, 144, 0};
        for (int what = 0; what < 8; what++) {
            CHECK.same("8: count " + what + " of all", x.count(what), due[what]);
        }
        for (int i = 0; i < 200; i++) {
            x.cutPiece(39 - i / 16, 12);
        }
        CHECK.same("8: count 7 of many", x.count(7), 200);
    }

    /** "IllegalArgumentException if what is out of range" */
    private static void countOutOfRange() {
        RodYard x = Yards.of(SMALL);
        Snapshot.refusedBeyond(CHECK, "8: count", Check.ARGUMENT, x, 8, x::count);
    }

    /** "4 rods in stock" */
    private static void rodsInStock() {
        RodYard x = Yards.of(SMALL);
        x.cutPiece(2, 57);
        CHECK.same("8: one unit is left", x.count(4), 3);
        x.cutPiece(0, 98);
        CHECK.same("8: the kerf takes all that is left", x.count(4), 2);
        x.cutPiece(2, 1);
        CHECK.same("8: the piece takes all that is left", x.count(4), 1);
        x.scrap(1);
        CHECK.same("8: the last one is scrapped", x.count(4), 0);
        CHECK.same("8: rods, in stock or not", x.count(1), 3);
    }

    /** "5 open orders"; "It is open as long as pieces of it are lacking and it is not cancelled." */
    private static void openOrders() {
        RodYard x = Yards.of(SMALL);
        x.cutPiece(0, 25);
        CHECK.same("8: one of two pieces is lacking", x.count(5), 2);
        x.cutPiece(0, 25);
        CHECK.same("8: none of two pieces is lacking", x.count(5), 1);
        x.cancel(0);
        CHECK.same("8: cancelled", x.count(5), 0);
        CHECK.same("8: orders, open or not", x.count(2), 2);
    }

    /** "6 pieces that are lacking in open orders" */
    private static void lackingInOpenOrders() {
        RodYard x = Yards.of(SMALL);
        CHECK.same("8: all are lacking", x.count(6), 5);
        x.cutPiece(0, 40);
        CHECK.same("8: one is cut", x.count(6), 4);
        x.cancel(0);
        CHECK.same("8: lacking in the order that is not cancelled", x.count(6), 2);
        x.cutPiece(1, 25);
        x.cutPiece(1, 25);
        CHECK.same("8: none is lacking", x.count(6), 0);
    }

    /** "7 pieces in the store" */
    private static void piecesInTheStore() {
        RodYard x = Yards.of("yard kerf 0 keep 1;kind 200 1;rods 0 3");
        x.cutPiece(0, 200);
        x.cutPiece(1, 1);
        x.cutPiece(1, 1);
        CHECK.same("8: the shortest and the longest pieces", x.count(7), 3);
        x.addOrder(1, 9, 0, 0);
        CHECK.same("8: the shortest ones are taken", x.count(7), 1);
        x.addOrder(200, 1, 0, 0);
        CHECK.same("8: the last one is taken", x.count(7), 0);
    }

    // ---- promise 9

    /** "IndexOutOfBoundsException if there is no such kind" */
    private static void noSuchKind() {
        RodYard x = Yards.of(Yards.FULL);
        CHECK.same("9: LENGTH of the first", x.kind(0, false), 10);
        CHECK.same("9: PRICE of the first", x.kind(0, true), 1);
        CHECK.same("9: LENGTH of the last", x.kind(3, false), 200);
        CHECK.same("9: PRICE of the last", x.kind(3, true), 99);
        for (boolean price : new boolean[] {false, true}) {
            RodYard two = Yards.of(SMALL);
            Snapshot.refusedBeyond(CHECK, "9: kind of two", Check.INDEX, two, 2, k -> two.kind(k, price));
            Snapshot.refusedBeyond(CHECK, "9: kind of four", Check.INDEX, x, 4, k -> x.kind(k, price));
            CHECK.fails("9: kind(0) of none", Check.INDEX, () -> Yards.of(EMPTY).kind(0, price));
        }
    }

    // ---- promise 10

    /** "IndexOutOfBoundsException if there is no such rod", which is listed ahead of IllegalArgumentException. */
    private static void noSuchRod() {
        RodYard x = Yards.of(SMALL);
        CHECK.same("10: the first", x.rod(0, 1), 100);
        CHECK.same("10: the last", x.rod(2, 1), 60);
        for (int what : new int[] {0, 4, -1, 5}) {
            Snapshot.refusedBeyond(CHECK, "10: rod, " + what, Check.INDEX, x, 3, r -> x.rod(r, what));
            CHECK.fails("10: rod(0) of none", Check.INDEX, () -> Yards.of(EMPTY).rod(0, what));
        }
        x.buy(1);
        CHECK.same("10: a rod that was bought", x.rod(3, 1), 60);
        x.undo();
        Snapshot.refused(CHECK, "10: a rod that was bought no more", Check.INDEX, x, () -> x.rod(3, 1));
        CHECK.same("10: the 40th rod", full().rod(39, 1), 200);
        CHECK.fails("10: the 41st rod", Check.INDEX, () -> full().rod(40, 1));
    }

    /** "IllegalArgumentException if what is out of range" */
    private static void rodOutOfRange() {
        RodYard x = Yards.of(SMALL);
        int[] due = {1, 60, 0, 0, 0};
        for (int what = 0; what < 5; what++) {
            CHECK.same("10: what " + what, x.rod(2, what), due[what]);
        }
        Snapshot.refusedBeyond(CHECK, "10: what", Check.ARGUMENT, x, 5, what -> x.rod(2, what));
    }

    /** "2 its state (0 in stock, 1 used up, 2 scrapped)"; "used up (its length is 0)" */
    private static void stateOfARod() {
        RodYard x = Yards.of("yard kerf 3 keep 20;kind 10 1;rods 0 6");
        int[] pieces = {6, 7, 8, 9, 10};
        int[] left = {1, 0, 0, 0, 0};
        for (int r = 0; r < 5; r++) {
            x.cutPiece(r, pieces[r]);
            CHECK.same("10: what is left of 10 behind " + pieces[r], x.rod(r, 1), left[r]);
            CHECK.same("10: its state behind " + pieces[r], x.rod(r, 2), left[r] == 0 ? 1 : 0);
        }
        CHECK.same("10: in stock", x.rod(5, 2), 0);
        x.scrap(5);
        CHECK.same("10: scrapped", x.rod(5, 2), 2);
        CHECK.same("10: its length", x.rod(5, 1), 0);
        x.endRound();
        CHECK.same("10: scrapped at the end of the round", x.rod(0, 2), 2);
        CHECK.same("10: used up stays used up", x.rod(4, 2), 1);
    }

    /** "3 the pieces that were cut from it" */
    private static void piecesOfARod() {
        RodYard x = Yards.of("yard kerf 0 keep 1;kind 200 1;rods 0 2;pattern 1 1 1 1 1 1");
        CHECK.same("10: no pieces", x.rod(0, 3), 0);
        for (int i = 1; i <= 100; i++) {
            x.cutPiece(0, 1);
        }
        x.cutPattern(0, 0);
        CHECK.same("10: many pieces", x.rod(0, 3), 106);
        x.endRound();
        x.scrap(0);
        CHECK.same("10: they stay behind the round and scrap", x.rod(0, 3), 106);
        CHECK.same("10: none of the other", x.rod(1, 3), 0);
    }

    /** "4 whether it was cut in this round (1 or 0)" */
    private static void cutInThisRound() {
        RodYard x = Yards.of("yard kerf 0 keep 1;kind 9 1;rods 0 4");
        CHECK.same("10: not cut", x.rod(0, 4), 0);
        x.cutPiece(0, 1);
        x.cutPiece(1, 9);
        x.cutPiece(2, 1);
        x.scrap(2);
        x.scrap(3);
        int[] due = {1, 1, 1, 0};
        for (int r = 0; r < 4; r++) {
            CHECK.same("10: rod " + r + " in the round", x.rod(r, 4), due[r]);
        }
        x.endRound();
        for (int r = 0; r < 4; r++) {
            CHECK.same("10: rod " + r + " in the next round", x.rod(r, 4), 0);
        }
        x.undo();
        CHECK.same("10: in the round again", x.rod(2, 4), 1);
    }

    // ---- promise 11

    /** "IndexOutOfBoundsException if there is no such order", which is listed ahead of IllegalArgumentException. */
    private static void noSuchOrder() {
        RodYard x = Yards.of(SMALL);
        CHECK.same("11: the first", x.order(0, 0), 40);
        CHECK.same("11: the last", x.order(1, 0), 25);
        for (int what : new int[] {0, 7, -1, 8}) {
            Snapshot.refusedBeyond(CHECK, "11: order, " + what, Check.INDEX, x, 2, o -> x.order(o, what));
            CHECK.fails("11: order(0) of none", Check.INDEX, () -> Yards.of(EMPTY).order(0, what));
        }
        x.addOrder(7, 1, 0, 0);
        CHECK.same("11: an order that was added", x.order(2, 0), 7);
        x.undo();
        Snapshot.refused(CHECK, "11: an order that was added no more", Check.INDEX, x, () -> x.order(2, 0));
        CHECK.same("11: the 16th order", full().order(15, 3), 999);
        CHECK.fails("11: the 17th order", Check.INDEX, () -> full().order(16, 3));
    }

    /** "IllegalArgumentException if what is out of range" */
    private static void orderOutOfRange() {
        RodYard x = Yards.of(SMALL);
        int[] due = {25, 2, 7, 0, 2, 0, 0, 0};
        for (int what = 0; what < 8; what++) {
            CHECK.same("11: what " + what, x.order(1, what), due[what]);
        }
        Snapshot.refusedBeyond(CHECK, "11: what", Check.ARGUMENT, x, 8, what -> x.order(1, what));
    }

    /** "4 pieces that are lacking, [..] 7 whether it is cancelled (1 or 0)" */
    private static void cancelledOrder() {
        RodYard x = Yards.of(SMALL);
        x.cutPiece(0, 25);
        x.cutPiece(0, 25);
        CHECK.same("11: a filled order lacks none", x.order(1, 4), 0);
        CHECK.same("11: a filled order is not cancelled", x.order(1, 7), 0);
        CHECK.same("11: not cancelled", x.order(0, 7), 0);
        x.cutPiece(1, 40);
        x.cancel(0);
        CHECK.same("11: cancelled", x.order(0, 7), 1);
        CHECK.same("11: a cancelled order lacks none", x.order(0, 4), 0);
        CHECK.same("11: the pieces in time stay", x.order(0, 5), 1);
    }

    // ---- promises 12 and 13

    /** "IndexOutOfBoundsException if there is no such pattern" */
    private static void noSuchPattern() {
        RodYard x = Yards.of(SMALL);
        CHECK.same("12: the first", x.patternSize(0), 2);
        CHECK.same("12: the last, and the least", x.patternSize(1), 1);
        CHECK.same("12: the greatest", Yards.of(Yards.FULL).patternSize(5), 6);
        Snapshot.refusedBeyond(CHECK, "12: patternSize", Check.INDEX, x, 2, x::patternSize);
        CHECK.fails("12: patternSize(6) of six", Check.INDEX, () -> Yards.of(Yards.FULL).patternSize(6));
        CHECK.fails("12: patternSize(0) of none", Check.INDEX, () -> Yards.of(EMPTY).patternSize(0));
    }

    /** "IndexOutOfBoundsException if there is no such pattern or index" */
    private static void noSuchLengthOfAPattern() {
        RodYard x = Yards.of("yard kerf 0 keep 1;pattern 9 8 7 6 5 4;pattern 3;pattern 2 1");
        CHECK.same("13: the first of six", x.patternLength(0, 0), 9);
        CHECK.same("13: the last of six", x.patternLength(0, 5), 4);
        CHECK.same("13: the only one", x.patternLength(1, 0), 3);
        CHECK.same("13: the last of two", x.patternLength(2, 1), 1);
        Snapshot.refusedBeyond(CHECK, "13: index of six", Check.INDEX, x, 6, k -> x.patternLength(0, k));
        Snapshot.refusedBeyond(CHECK, "13: index of one", Check.INDEX, x, 1, k -> x.patternLength(1, k));
        Snapshot.refusedBeyond(CHECK, "13: index of two", Check.INDEX, x, 2, k -> x.patternLength(2, k));
        for (int k : new int[] {0, 5, -1, 6}) {
            Snapshot.refusedBeyond(CHECK, "13: pattern, " + k, Check.INDEX, x, 3, p -> x.patternLength(p, k));
        }
        CHECK.fails("13: of none", Check.INDEX, () -> Yards.of(EMPTY).patternLength(0, 0));
    }

    // ---- promises 14 and 15

    /** "0 KERF, 1 KEEP"; "IllegalArgumentException if what is out of range" */
    private static void settingOutOfRange() {
        RodYard x = Yards.of(SMALL);
        CHECK.same("14: KERF", x.setting(0), 2);
        CHECK.same("14: KEEP", x.setting(1), 20);
        Snapshot.refusedBeyond(CHECK, "14: setting", Check.ARGUMENT, x, 2, x::setting);
    }

    /** "Returns a setting, as it is now." */
    private static void settingNow() {
        RodYard x = Yards.of(SMALL);
        int[] greatest = {9, 200};
        for (int what = 0; what < 2; what++) {
            int setting = what;
            int ahead = x.setting(what);
            x.setSetting(what, greatest[what]);
            CHECK.same("14: as it is now", x.setting(what), greatest[what]);
            Snapshot.refused(CHECK, "14: a value beyond", Check.ARGUMENT, x,
                    () -> x.setSetting(setting, greatest[setting] + 1));
            x.undo();
            CHECK.same("14: as it is again", x.setting(what), ahead);
        }
    }

    /** "The round is 0 at first."; "Then the next round begins." */
    private static void roundAtFirst() {
        RodYard x = Yards.of(EMPTY);
        CHECK.same("15: at first", x.round(), 0);
        for (int round = 1; round <= 120; round++) {
            x.endRound();
            CHECK.same("15: the next round", x.round(), round);
        }
    }

    // ---- promises 16 to 19

    /** "IllegalArgumentException if length is out of range"; "`length`: 1 to 200" */
    private static void lengthOutOfRange() {
        RodYard x = Yards.of(SMALL);
        for (int length : new int[] {0, -1, 201, Integer.MIN_VALUE, Integer.MAX_VALUE}) {
            Snapshot.refused(CHECK, "16: wanted(" + length + ")", Check.ARGUMENT, x, () -> x.wanted(length));
            Snapshot.refused(CHECK, "17: stored(" + length + ")", Check.ARGUMENT, x, () -> x.stored(length));
            Snapshot.refused(CHECK, "18: left(0, " + length + ")", Check.ARGUMENT, x, () -> x.left(0, length));
            for (int policy : new int[] {0, 2, 3}) {
                Snapshot.refused(CHECK, "19: rodFor(" + length + ", " + policy + ")", Check.ARGUMENT, x,
                        () -> x.rodFor(length, policy));
            }
        }
    }

    /** "`length`: 1 to 200": the first and the last that are taken. */
    private static void lengthsInRange() {
        RodYard x = Yards.of("yard kerf 0 keep 1;kind 200 1;rods 0 3;order 1 3 0 0;order 200 2 0 0");
        CHECK.same("16: wanted(1)", x.wanted(1), 3);
        CHECK.same("16: wanted(200)", x.wanted(200), 2);
        CHECK.same("17: stored(1)", x.stored(1), 0);
        CHECK.same("17: stored(200)", x.stored(200), 0);
        CHECK.same("18: left(0, 1)", x.left(0, 1), 199);
        CHECK.same("18: left(0, 200)", x.left(0, 200), 0);
        CHECK.same("19: rodFor(1, 0)", x.rodFor(1, 0), 0);
        CHECK.same("19: rodFor(200, 2)", x.rodFor(200, 2), 0);
    }

    /** "how many pieces of a length are lacking in open orders" */
    private static void wantedInOpenOrders() {
        RodYard x = Yards.of("yard kerf 0 keep 1;kind 200 1;rods 0 3;order 30 2 0 9;order 31 1 0 0;order 30 9 0 0");
        CHECK.same("16: in two orders", x.wanted(30), 11);
        CHECK.same("16: of one less", x.wanted(29), 0);
        CHECK.same("16: of one more", x.wanted(31), 1);
        x.cutPiece(0, 30);
        CHECK.same("16: behind a cut", x.wanted(30), 10);
        x.cancel(2);
        CHECK.same("16: in the order that is not cancelled", x.wanted(30), 2);
        x.cutPiece(0, 30);
        CHECK.same("16: the last but one", x.wanted(30), 1);
        x.cutPiece(0, 30);
        CHECK.same("16: none", x.wanted(30), 0);
    }

    /** "how many pieces of a length are in the store" */
    private static void storedOfALength() {
        RodYard x = Yards.of("yard kerf 0 keep 1;kind 200 1;rods 0 3;order 30 1 0 9");
        x.cutPiece(0, 30);
        CHECK.same("17: one that went to an order", x.stored(30), 0);
        x.cutPiece(0, 30);
        x.cutPiece(1, 30);
        CHECK.same("17: two", x.stored(30), 2);
        CHECK.same("17: of one less", x.stored(29), 0);
        CHECK.same("17: of one more", x.stored(31), 0);
        x.addOrder(30, 1, 0, 0);
        CHECK.same("17: the last one", x.stored(30), 1);
        x.addOrder(30, 1, 0, 0);
        CHECK.same("17: none", x.stored(30), 0);
    }

    /** "if the length of the rod is not less than that of the piece"; "but not more than the rod still has" */
    private static void leftOfARod() {
        RodYard x = Yards.of("yard kerf 3 keep 1;kind 60 1;rods 0 1");
        CHECK.same("18: more than the kerf is left", x.left(0, 56), 1);
        CHECK.same("18: the kerf is left", x.left(0, 57), 0);
        CHECK.same("18: less than the kerf is left", x.left(0, 58), 0);
        CHECK.same("18: one unit is left for the kerf", x.left(0, 59), 0);
        CHECK.same("18: the whole rod", x.left(0, 60), 0);
        CHECK.same("18: one unit more than the rod", x.left(0, 61), -1);
        CHECK.same("18: the longest piece", x.left(0, 200), -1);
        x.setSetting(0, 0);
        CHECK.same("18: the whole rod without kerf", x.left(0, 60), 0);
        CHECK.same("18: one unit less without kerf", x.left(0, 59), 1);
        x.setSetting(0, 9);
        CHECK.same("18: the greatest kerf and one unit", x.left(0, 50), 1);
        CHECK.same("18: the greatest kerf", x.left(0, 51), 0);
        for (int piece = 50; piece <= 60; piece++) {
            int left = x.left(0, piece);
            x.cutPiece(0, piece);
            CHECK.same("18: left is what cutPiece leaves, " + piece, x.rod(0, 1), left);
            x.undo();
        }
    }

    /** "NONE if the piece cannot be cut from it." */
    private static void leftWithoutStock() {
        RodYard x = Yards.of("yard kerf 0 keep 10;kind 60 1;rods 0 3");
        x.cutPiece(0, 60);
        x.scrap(1);
        x.cutPiece(2, 51);
        CHECK.same("18: of the 9 that are left", x.left(2, 9), 0);
        x.endRound();
        for (int r = 0; r < 3; r++) {
            CHECK.same("18: of rod " + r + " that is not in stock", x.left(r, 1), -1);
        }
    }

    /** "IndexOutOfBoundsException if there is no such rod", which is listed ahead of IllegalArgumentException. */
    private static void noSuchRodToCut() {
        RodYard x = Yards.of(SMALL);
        CHECK.same("18: the last rod", x.left(2, 1), 57);
        for (int length : new int[] {1, 200, 0, 201}) {
            Snapshot.refusedBeyond(CHECK, "18: left, " + length, Check.INDEX, x, 3, r -> x.left(r, length));
            CHECK.fails("18: left of none", Check.INDEX, () -> Yards.of(EMPTY).left(0, length));
        }
    }

    /** "`policy`: 0 to 2"; "IllegalArgumentException if length or policy is out of range" */
    private static void rodForPolicy() {
        RodYard x = Yards.of("yard kerf 0 keep 1;kind 100 1;kind 60 1;kind 150 1;rods 0 1;rods 1 1;rods 2 1");
        CHECK.same("19: policy 0", x.rodFor(60, 0), 0);
        CHECK.same("19: policy 1", x.rodFor(60, 1), 1);
        CHECK.same("19: policy 2", x.rodFor(60, 2), 2);
        for (int length : new int[] {1, 200, 0, 201}) {
            Snapshot.refusedBeyond(CHECK, "19: policy, " + length, Check.ARGUMENT, x, 3, policy -> x.rodFor(length,
                    policy));
        }
    }

    /** "NONE if it cannot be cut from any." */
    private static void rodForNone() {
        RodYard x = Yards.of("yard kerf 9 keep 1;kind 60 1;kind 50 1;rods 0 1;rods 1 1");
        for (int policy = 0; policy < 3; policy++) {
            CHECK.same("19: the whole of the longest rod", x.rodFor(60, policy), 0);
            CHECK.same("19: one unit more", x.rodFor(61, policy), -1);
            CHECK.same("19: of no rods", Yards.of(EMPTY).rodFor(1, policy), -1);
        }
        x.scrap(0);
        for (int policy = 0; policy < 3; policy++) {
            CHECK.same("19: the whole of the other rod", x.rodFor(50, policy), 1);
            CHECK.same("19: one unit more than the other rod", x.rodFor(51, policy), -1);
        }
        x.cutPiece(1, 50);
        for (int policy = 0; policy < 3; policy++) {
            CHECK.same("19: of no rods in stock", x.rodFor(1, policy), -1);
        }
    }

    /** "by policy 0 [..] the smallest number, by policy 1 [..] the least length [..] (in both cases of several ..)" */
    private static void rodForSeveral() {
        RodYard x = Yards.of("yard kerf 0 keep 1;kind 50 1;kind 70 1;kind 60 1;rods 0 2;rods 1 2;rods 2 2");
        int[][] due = {{0, 0, 2}, {2, 4, 2}, {2, 2, 2}};
        int[] lengths = {50, 51, 61};
        for (int i = 0; i < 3; i++) {
            for (int policy = 0; policy < 3; policy++) {
                CHECK.same("19: " + lengths[i] + " by policy " + policy, x.rodFor(lengths[i], policy), due[i][policy]);
            }
        }
        x.cutPiece(2, 20);
        CHECK.same("19: rods 0, 1 and 2 are alike", x.rodFor(50, 1), 0);
        CHECK.same("19: rod 3 is the longest", x.rodFor(50, 2), 3);
        x.scrap(0);
        CHECK.same("19: rods 1 and 2 are alike, by policy 0", x.rodFor(50, 0), 1);
        CHECK.same("19: rods 1 and 2 are alike, by policy 1", x.rodFor(50, 1), 1);
        x.scrap(3);
        CHECK.same("19: rods 4 and 5 are alike", x.rodFor(50, 2), 4);
    }

    /** "Finds the rod from which a policy would cut a piece of a length now, wanted or not." */
    private static void rodForWanted() {
        RodYard x = Yards.of("yard kerf 0 keep 1;kind 50 1;rods 0 1;order 20 1 0 0");
        CHECK.same("19: wanted", x.rodFor(20, 0), 0);
        CHECK.same("19: not wanted", x.rodFor(21, 0), 0);
        x.cancel(0);
        CHECK.same("19: wanted no more", x.rodFor(20, 1), 0);
    }

    // ---- promises 20 to 22

    /** "Returns its number, of several the smallest one; NONE if no rod is in stock." */
    private static void longestRod() {
        CHECK.same("20: no rods", Yards.of(EMPTY).longest(), -1);
        RodYard x = Yards.of("yard kerf 0 keep 1;kind 50 1;kind 51 1;rods 0 2;rods 1 2");
        CHECK.same("20: the first of two", x.longest(), 2);
        x.cutPiece(2, 1);
        CHECK.same("20: one unit longer", x.longest(), 3);
        x.cutPiece(3, 1);
        CHECK.same("20: the first of four", x.longest(), 0);
        x.scrap(0);
        CHECK.same("20: the first of three", x.longest(), 1);
        x.cutPiece(1, 49);
        x.cutPiece(2, 50);
        x.cutPiece(3, 50);
        CHECK.same("20: the last in stock, of one unit", x.longest(), 1);
        x.cutPiece(1, 1);
        CHECK.same("20: none in stock", x.longest(), -1);
    }

    /** "Returns the sum of the lengths of all rods in stock": of none. */
    private static void sumsOfNothing() {
        CHECK.same("21: no rods", Yards.of(EMPTY).total(), 0);
        CHECK.same("22: no rods", Yards.of(EMPTY).worth(), 0);
        RodYard x = Yards.of("yard kerf 0 keep 1;kind 50 9;rods 0 2");
        x.scrap(0);
        x.cutPiece(1, 50);
        CHECK.same("21: none in stock", x.total(), 0);
        CHECK.same("22: none in stock", x.worth(), 0);
    }

    /** "each one times the PRICE of its kind": of as many, as long and as dear as there can be. */
    private static void sumsOfAll() {
        RodYard x = Yards.of("yard kerf 0 keep 1;kind 1 1;kind 200 99;rods 1 9;rods 1 9;rods 1 6");
        for (int i = 24; i < 40; i++) {
            x.buy(1);
        }
        CHECK.same("21: all", x.total(), 8000);
        CHECK.same("22: all", x.worth(), 792000);
        CHECK.same("38: purchases", x.account(0), 16 * 19800);
    }

    /** "of all rods in stock": what is left of them alone. */
    private static void sumsInStock() {
        RodYard x = Yards.of("yard kerf 4 keep 1;kind 50 9;kind 60 7;rods 0 2;rods 1 2");
        x.cutPiece(0, 45);
        CHECK.same("21: one unit of rod 0", x.total(), 1 + 50 + 60 + 60);
        CHECK.same("22: one unit of rod 0", x.worth(), 51 * 9 + 120 * 7);
        x.cutPiece(2, 56);
        CHECK.same("21: rod 2 is used up", x.total(), 1 + 50 + 60);
        CHECK.same("22: rod 2 is used up", x.worth(), 51 * 9 + 60 * 7);
        x.scrap(1);
        CHECK.same("21: rod 1 is scrapped", x.total(), 61);
        CHECK.same("22: rod 1 is scrapped", x.worth(), 9 + 60 * 7);
    }

    // ---- promises 23 and 24

    /** "Finds the open order with the least DUE"; "its number, of several the smallest one" */
    private static void firstDueOrder() {
        RodYard x = Yards.of("yard kerf 0 keep 1;kind 50 1;rods 0 2;order 5 1 0 7;order 6 1 0 6;order 7 1 0 6;"
                + "order 5 1 0 99");
        CHECK.same("23: the first of two", x.firstDue(), 1);
        x.cutPiece(0, 6);
        CHECK.same("23: the second of two", x.firstDue(), 2);
        x.cancel(2);
        CHECK.same("23: the next", x.firstDue(), 0);
        x.addOrder(60, 1, 0, 6);
        CHECK.same("23: one less, though it cannot be cut", x.firstDue(), 4);
        x.addOrder(60, 1, 0, 0);
        CHECK.same("23: the least DUE", x.firstDue(), 5);
        x.addOrder(60, 1, 0, 999);
        x.cancel(5);
        x.cancel(4);
        x.cancel(0);
        CHECK.same("23: 99", x.firstDue(), 3);
        x.cancel(3);
        CHECK.same("23: the greatest DUE", x.firstDue(), 6);
    }

    /** "NONE if no order is open" */
    private static void firstDueNone() {
        CHECK.same("23: no orders", Yards.of(EMPTY).firstDue(), -1);
        RodYard x = Yards.of("yard kerf 0 keep 1;kind 50 1;rods 0 1;order 5 1 0 7;order 6 1 0 6");
        x.cancel(0);
        CHECK.same("23: the last one open", x.firstDue(), 1);
        x.cutPiece(0, 6);
        CHECK.same("23: none open", x.firstDue(), -1);
    }

    /** "pieces that are lacking in open orders whose DUE is less than the round" */
    private static void overduePieces() {
        CHECK.same("24: no orders", Yards.of(EMPTY).overdue(), 0);
        RodYard x = Yards.of("yard kerf 0 keep 1;kind 50 1;rods 0 1;order 5 1 0 0;order 6 2 0 1;order 7 4 0 2");
        int[] due = {0, 1, 3, 7, 7};
        for (int round = 0; round < 5; round++) {
            CHECK.same("24: in round " + round, x.overdue(), due[round]);
            x.endRound();
        }
        x.cutPiece(0, 6);
        CHECK.same("24: one is lacking no more", x.overdue(), 6);
        x.cancel(2);
        CHECK.same("24: four are cancelled", x.overdue(), 2);
        x.addOrder(8, 9, 0, 5);
        CHECK.same("24: DUE is the round", x.overdue(), 2);
        x.addOrder(8, 9, 0, 4);
        CHECK.same("24: DUE is the round ahead", x.overdue(), 11);
    }
}
