/** Promises 46 to 58 and sections 1, 2, 5 and 7: each sentence that names a boundary has a test of its own. */
public final class ChangeEdgesTest {
    private static final Check CHECK = new Check();
    private static final String EMPTY = "yard kerf 0 keep 1";
    private static final String SMALL = "yard kerf 2 keep 20;kind 100 3;kind 60 5;rods 0 2;rods 1 1;order 40 3 10 1;"
            + "order 25 2 7 0;pattern 40 40;pattern 25 40";

    public static void main(String[] args) {
        pieceNotLongerThanRod();
        pieceOutOfRange();
        pieceWithoutStock();
        noSuchRod();
        orderOfAPiece();
        pieceForTheStore();
        inTimeOrLate();
        patternThatFits();
        noSuchPattern();
        piecesIntoTheStore();
        policyOutOfRange();
        fillOfNothing();
        shorterThanKeep();
        notCutInThisRound();
        lostByTheRound();
        nextRound();
        numbersOfRods();
        fortyRods();
        noSuchKind();
        sixteenOrders();
        orderOutOfRange();
        fullAndOutOfRange();
        fromTheStore();
        fromTheStoreLate();
        cancelOpenOrder();
        noSuchOrder();
        scrapInStock();
        noSuchRodToScrap();
        settingOutOfRange();
        previousValue();
        settingAtOnce();
        undoOfNone();
        eightChanges();
        undoOfEach();
        undoneNumbers();
        changeOfNothing();
        changesBehindUndo();
        noChanges();
        freshBehindRestore();
        noSuchSlot();
        saveInPlace();
        restoreOfNothing();
        restoreStays();
        restoreForgets();
        slotsApart();
        wholeState();
        CHECK.end();
    }

    // ---- promise 46

    /** "if the length of the rod is not less than that of the piece"; "or the piece cannot be cut from the rod" */
    private static void pieceNotLongerThanRod() {
        RodYard x = Yards.of("yard kerf 3 keep 1;kind 10 1;rods 0 4");
        Snapshot.refused(CHECK, "46: one unit longer", Check.ARGUMENT, x, () -> x.cutPiece(0, 11));
        CHECK.same("46: as long", x.cutPiece(0, 10), -1);
        CHECK.same("46: nothing is left", x.rod(0, 1), 0);
        CHECK.same("46: one unit shorter", x.cutPiece(1, 9), -1);
        CHECK.same("46: the kerf takes one unit", x.rod(1, 1), 0);
        CHECK.same("46: the kerf shorter", x.cutPiece(2, 7), -1);
        CHECK.same("46: the kerf takes all", x.rod(2, 1), 0);
        CHECK.same("46: the kerf and one unit shorter", x.cutPiece(3, 6), -1);
        CHECK.same("46: one unit is left", x.rod(3, 1), 1);
        Snapshot.refused(CHECK, "46: longer than what is left", Check.ARGUMENT, x, () -> x.cutPiece(3, 2));
        CHECK.same("46: as long as what is left", x.cutPiece(3, 1), -1);
        CHECK.same("46: used up", x.rod(3, 2), 1);
    }

    /** "`length`: 1 to 200"; "IllegalArgumentException if length is out of range" */
    private static void pieceOutOfRange() {
        RodYard x = Yards.of("yard kerf 0 keep 1;kind 200 1;rods 0 2");
        for (int length : new int[] {0, -1, -200, 201, Integer.MIN_VALUE, Integer.MAX_VALUE}) {
            Snapshot.refused(CHECK, "46: length " + length, Check.ARGUMENT, x, () -> x.cutPiece(0, length));
        }
        CHECK.same("46: the least", x.cutPiece(0, 1), -1);
        CHECK.same("46: the greatest", x.cutPiece(1, 200), -1);
        CHECK.same("17: the least", x.stored(1), 1);
        CHECK.same("17: the greatest", x.stored(200), 1);
    }

    /** "A piece can be cut from a rod in stock" */
    private static void pieceWithoutStock() {
        RodYard x = Yards.of("yard kerf 0 keep 6;kind 10 1;rods 0 3");
        x.cutPiece(0, 10);
        x.scrap(1);
        x.cutPiece(2, 5);
        x.endRound();
        for (int r = 0; r < 3; r++) {
            int rod = r;
            Snapshot.refused(CHECK, "46: rod " + r + " that is not in stock", Check.ARGUMENT, x, () -> x.cutPiece(rod,
                    1));
        }
    }

    /** "IndexOutOfBoundsException if there is no such rod", which is listed ahead of IllegalArgumentException. */
    private static void noSuchRod() {
        RodYard x = Yards.of(SMALL);
        for (int length : new int[] {1, 200, 0, 201}) {
            Snapshot.refusedBeyond(CHECK, "46: rod, " + length, Check.INDEX, x, 3, r -> x.cutPiece(r, length));
            CHECK.fails("46: no rods", Check.INDEX, () -> Yards.of(EMPTY).cutPiece(0, length));
        }
        CHECK.same("46: the last rod", x.cutPiece(2, 1), -1);
    }

    /** "of several to that with the least DUE, of these to that with the smallest number" */
    private static void orderOfAPiece() {
        RodYard x = Yards.of("yard kerf 0 keep 1;kind 100 1;rods 0 1;order 5 1 0 4;order 5 1 0 3;order 6 1 0 0;"
                + "order 4 1 0 0;order 5 2 0 3;order 5 1 0 99");
        x.addOrder(5, 1, 0, 2);
        x.cancel(6);
        int[] due = {1, 4, 4, 0, 5, -1};
        for (int order : due) {
            CHECK.same("46: the order to which it goes", x.cutPiece(0, 5), order);
        }
    }

    /** "If there is none, it comes into the store."; "NONE for the store" */
    private static void pieceForTheStore() {
        RodYard x = Yards.of("yard kerf 0 keep 1;kind 100 1;rods 0 1;order 5 1 0 4;order 7 1 0 4");
        CHECK.same("46: one unit less", x.cutPiece(0, 4), -1);
        CHECK.same("46: one unit more", x.cutPiece(0, 6), -1);
        CHECK.same("46: its length", x.cutPiece(0, 5), 0);
        CHECK.same("46: the order is filled", x.cutPiece(0, 5), -1);
        x.cancel(1);
        CHECK.same("46: the order is cancelled", x.cutPiece(0, 7), -1);
        CHECK.same("8: pieces in the store", x.count(7), 4);
    }

    /** "in time if the round is not greater than DUE, [..]; otherwise it is late" */
    private static void inTimeOrLate() {
        RodYard x = Yards.of("yard kerf 0 keep 1;kind 100 1;rods 0 1;order 5 9 9 2");
        for (int round = 0; round < 5; round++) {
            x.cutPiece(0, 5);
            CHECK.same("11: in time, round " + round, x.order(0, 5), Math.min(round + 1, 3));
            CHECK.same("11: late, round " + round, x.order(0, 6), Math.max(round - 2, 0));
            x.endRound();
        }
        CHECK.same("11: lacking", x.order(0, 4), 4);
        CHECK.same("38: earned", x.account(4), 3 * 9 + 2 * 4);
    }

    // ---- promises 47 and 48

    /** "IllegalArgumentException if the pattern does not fit the rod" */
    private static void patternThatFits() {
        RodYard x = Yards.of("yard kerf 3 keep 1;kind 20 1;kind 21 1;kind 22 1;kind 23 1;rods 0 1;rods 1 1;rods 2 1;"
                + "rods 3 1;pattern 9 9;pattern 1 1 1 1 1 1");
        Snapshot.refused(CHECK, "47: one unit too short", Check.ARGUMENT, x, () -> x.cutPattern(0, 0));
        int[] left = {-1, 0, 0, 0};
        for (int r = 1; r < 4; r++) {
            CHECK.same("47: cutPattern(0, " + r + ")", x.cutPattern(0, r), 2);
            CHECK.same("47: what is left of rod " + r, x.rod(r, 1), left[r]);
            int rod = r;
            Snapshot.refused(CHECK, "47: used up", Check.ARGUMENT, x, () -> x.cutPattern(1, rod));
        }
        // 1 1 1 1 1 with its kerf takes all of 20.
        Snapshot.refused(CHECK, "47: the last length does not fit", Check.ARGUMENT, x, () -> x.cutPattern(1, 0));
        x.setSetting(0, 2);
        CHECK.same("47: the last length fits", x.cutPattern(1, 0), 6);
        CHECK.same("47: what is left", x.rod(0, 1), 2);
        x.scrap(0);
        Snapshot.refused(CHECK, "47: scrapped", Check.ARGUMENT, x, () -> x.cutPattern(1, 0));
    }

    /** "IndexOutOfBoundsException if there is no such pattern or rod", which is listed ahead. */
    private static void noSuchPattern() {
        RodYard x = Yards.of(SMALL);
        for (int rod : new int[] {0, 2, -1, 3}) {
            Snapshot.refusedBeyond(CHECK, "47: pattern, rod " + rod, Check.INDEX, x, 2, p -> x.cutPattern(p, rod));
        }
        for (int pattern : new int[] {0, 1, -1, 2}) {
            Snapshot.refusedBeyond(CHECK, "47: rod, pattern " + pattern, Check.INDEX, x, 3, r -> x.cutPattern(pattern,
                    r));
        }
        Snapshot.refused(CHECK, "47: the first pattern, the last rod", Check.ARGUMENT, x, () -> x.cutPattern(0, 2));
        CHECK.same("47: the last pattern, the first rod", x.cutPattern(1, 0), 0);
        CHECK.fails("47: no patterns", Check.INDEX, () -> Yards.of(EMPTY + ";kind 9 9;rods 0 1").cutPattern(0, 0));
        CHECK.fails("47: no rods", Check.INDEX, () -> Yards.of(EMPTY + ";pattern 9").cutPattern(0, 0));
    }

    /** "Returns how many of them come into the store." */
    private static void piecesIntoTheStore() {
        for (int lacking = 0; lacking <= 7; lacking++) {
            RodYard x = Yards.of("yard kerf 0 keep 1;kind 100 1;rods 0 1;pattern 5 5 5 5 5 5");
            if (lacking > 0) {
                x.addOrder(5, lacking, 2, 0);
            }
            CHECK.same("47: " + lacking + " are lacking", x.cutPattern(0, 0), Math.max(0, 6 - lacking));
            CHECK.same("47: stored, " + lacking, x.stored(5), Math.max(0, 6 - lacking));
            CHECK.same("47: earned, " + lacking, x.account(4), 2 * Math.min(6, lacking));
        }
    }

    /** "`policy`: 0 to 3"; "IllegalArgumentException if policy is out of range" */
    private static void policyOutOfRange() {
        for (int policy = 0; policy < 4; policy++) {
            RodYard x = Yards.of(SMALL);
            CHECK.same("48: policy " + policy, x.fill(policy), 5);
        }
        RodYard x = Yards.of(SMALL);
        Snapshot.refusedBeyond(CHECK, "48: policy", Check.ARGUMENT, x, 4, x::fill);
    }

    /** "Returns the number of pieces that are cut": 0; "is a change, even if nothing is different then". */
    private static void fillOfNothing() {
        for (int policy = 0; policy < 4; policy++) {
            RodYard x = Yards.of("yard kerf 0 keep 1;kind 9 1;rods 0 1;order 10 1 0 0;pattern 10");
            String ahead = Snapshot.of(x).replace("undoable 0", "undoable 1");
            CHECK.same("48: nothing can be cut", x.fill(policy), 0);
            CHECK.sameText("48: but for the change", Snapshot.of(x), ahead);
            CHECK.same("55: undo", x.undo(), 0);
        }
    }

    // ---- promise 49, and section 5

    /** "and whose length is less than KEEP, is scrapped: its length is lost, and becomes 0" */
    private static void shorterThanKeep() {
        RodYard x = Yards.of("yard kerf 0 keep 5;kind 10 7;rods 0 5");
        int[] pieces = {4, 5, 6, 9, 10};
        int[] left = {6, 5, 0, 0, 0};
        int[] states = {0, 0, 2, 2, 1};
        for (int r = 0; r < 5; r++) {
            x.cutPiece(r, pieces[r]);
        }
        CHECK.same("49: 4 and 1 are lost", x.endRound(), 5);
        for (int r = 0; r < 5; r++) {
            CHECK.same("49: what is left of rod " + r, x.rod(r, 1), left[r]);
            CHECK.same("49: the state of rod " + r, x.rod(r, 2), states[r]);
        }
        CHECK.same("38: its cost", x.account(3), 35);
        RodYard least = Yards.of("yard kerf 0 keep 1;kind 10 7;rods 0 1");
        least.cutPiece(0, 9);
        CHECK.same("49: KEEP 1 keeps one unit", least.endRound(), 0);
        RodYard greatest = Yards.of("yard kerf 0 keep 200;kind 200 7;rods 0 2");
        greatest.cutPiece(0, 1);
        CHECK.same("49: KEEP 200 does not keep 199", greatest.endRound(), 199);
        CHECK.same("49: KEEP 200 keeps 200", greatest.total(), 200);
    }

    /** "each rod in stock that was cut in this round" */
    private static void notCutInThisRound() {
        RodYard x = Yards.of("yard kerf 0 keep 5;kind 10 7;kind 4 1;rods 0 3;rods 1 1");
        x.cutPiece(0, 5);
        x.scrap(2);
        CHECK.same("49: 5 is kept, and 4 was not cut", x.endRound(), 0);
        x.setSetting(1, 6);
        CHECK.same("49: 5 was cut in an earlier round", x.endRound(), 0);
        x.cutPiece(1, 5);
        CHECK.same("49: 5 was cut in this round", x.endRound(), 5);
        CHECK.same("49: 5 that was cut earlier stays", x.rod(0, 1), 5);
        x.cutPiece(0, 1);
        CHECK.same("49: it was cut in this round again", x.endRound(), 4);
        CHECK.same("49: 4 stays, as it was never cut", x.rod(3, 1), 4);
        CHECK.same("8: it alone is in stock", x.count(4), 1);
    }

    /** "Returns what is lost by this, in units." */
    private static void lostByTheRound() {
        CHECK.same("49: nothing at all", Yards.of(EMPTY).endRound(), 0);
        RodYard x = Yards.of("yard kerf 1 keep 200;kind 200 9;rods 0 9;rods 0 9;rods 0 6");
        for (int r = 24; r < 40; r++) {
            x.buy(0);
        }
        for (int r = 0; r < 40; r++) {
            x.cutPiece(r, 1);
        }
        CHECK.same("49: of forty rods, without what the kerf took", x.endRound(), 40 * 198);
        CHECK.same("38: units by scrapping", x.account(2), 40 * 198);
        CHECK.same("49: all are scrapped", x.endRound(), 0);
    }

    /** "Then the next round begins." */
    private static void nextRound() {
        RodYard x = Yards.of("yard kerf 0 keep 9;kind 10 7;rods 0 2;order 1 2 9 0");
        x.cutPiece(0, 1);
        x.cutPiece(1, 2);
        CHECK.same("10: cut in this round", x.rod(0, 4), 1);
        x.endRound();
        CHECK.same("15: the next round", x.round(), 1);
        CHECK.same("10: kept, and not cut in the next round", x.rod(0, 4), 0);
        CHECK.same("10: scrapped, and not cut in the next round", x.rod(1, 4), 0);
        CHECK.same("24: DUE is less than the round", x.overdue(), 1);
    }

    // ---- promise 50

    /** "Rods are numbered from 0 as they come."; "Returns the number of the rod." */
    private static void numbersOfRods() {
        RodYard x = Yards.of("yard kerf 0 keep 1;kind 10 7;kind 20 8");
        CHECK.same("50: the first rod", x.buy(1), 0);
        CHECK.same("50: the second rod", x.buy(0), 1);
        x.scrap(1);
        CHECK.same("50: the number of a scrapped rod is not used again", x.buy(0), 2);
        int[][] due = {{1, 20, 0, 0, 0}, {0, 0, 2, 0, 0}, {0, 10, 0, 0, 0}};
        for (int r = 0; r < 3; r++) {
            for (int what = 0; what < 5; what++) {
                CHECK.same("10: what " + what + " of rod " + r, x.rod(r, what), due[r][what]);
            }
        }
        CHECK.same("38: purchases", x.account(0), 160 + 70 + 70);
        CHECK.same("50: the first behind the text's rods", Yards.of(SMALL).buy(0), 3);
    }

    /** "IllegalArgumentException if there are 40 rods"; "IndexOutOfBoundsException", which is listed ahead. */
    private static void fortyRods() {
        RodYard x = Yards.of(Yards.FULL);
        for (int r = 24; r < 39; r++) {
            CHECK.same("50: buy", x.buy(0), r);
        }
        CHECK.same("50: the 40th rod", x.buy(3), 39);
        x.scrap(39);
        x.scrap(0);
        for (int kind = 0; kind < 4; kind++) {
            int k = kind;
            CHECK.fails("50: the 41st rod, in stock or not", Check.ARGUMENT, () -> x.buy(k));
        }
        CHECK.fails("50: no such kind, and 40 rods", Check.INDEX, () -> x.buy(4));
        CHECK.fails("50: no such kind, and 40 rods", Check.INDEX, () -> x.buy(-1));
        CHECK.same("8: rods", x.count(1), 40);
        CHECK.same("38: purchases", x.account(0), 15 * 10 + 19800);
        CHECK.same("56: the refused ones are no changes", x.undoable(), 8);
        x.undo();
        x.undo();
        x.undo();
        CHECK.same("8: rods behind undo", x.count(1), 39);
        CHECK.same("50: the 40th rod again", x.buy(0), 39);
    }

    /** "IndexOutOfBoundsException if there is no such kind" */
    private static void noSuchKind() {
        RodYard x = Yards.of(SMALL);
        Snapshot.refusedBeyond(CHECK, "50: kind", Check.INDEX, x, 2, x::buy);
        CHECK.same("50: the last kind", x.buy(1), 3);
        CHECK.same("50: the first kind", x.buy(0), 4);
        CHECK.fails("50: no kinds", Check.INDEX, () -> Yards.of(EMPTY).buy(0));
        CHECK.same("50: the fourth kind", Yards.of(Yards.FULL).buy(3), 24);
        CHECK.fails("50: a fifth kind", Check.INDEX, () -> Yards.of(Yards.FULL).buy(4));
    }

    // ---- promise 51

    /** "IllegalArgumentException if there are 16 orders"; "Orders are numbered from 0 as they come." */
    private static void sixteenOrders() {
        RodYard x = Yards.of(EMPTY);
        for (int o = 0; o < 16; o++) {
            CHECK.same("51: an order's number", x.addOrder(7, 1, 1, 1), o);
        }
        for (int o = 0; o < 16; o++) {
            x.cancel(o);
            Snapshot.refused(CHECK, "51: the 17th order, though " + o + " is cancelled", Check.ARGUMENT, x,
                    () -> x.addOrder(7, 1, 1, 1));
        }
        RodYard y = Yards.of(Yards.FULL);
        for (int o = 12; o < 16; o++) {
            CHECK.same("51: behind the text's orders", y.addOrder(7, 1, 1, 1), o);
        }
        CHECK.fails("51: the 17th behind the text's orders", Check.ARGUMENT, () -> y.addOrder(7, 1, 1, 1));
        y.undo();
        CHECK.same("51: the 16th again", y.addOrder(8, 1, 1, 1), 15);
    }

    /** "or an argument is out of its range"; length 1 to 200, count 1 to 9, value 0 to 99, due 0 to 999 */
    private static void orderOutOfRange() {
        int[] least = {1, 1, 0, 0};
        int[] greatest = {200, 9, 99, 999};
        int[] usual = {7, 2, 3, 4};
        for (int i = 0; i < 4; i++) {
            for (int value : new int[] {least[i] - 1, greatest[i] + 1, -1, Integer.MIN_VALUE, Integer.MAX_VALUE}) {
                RodYard x = Yards.of(SMALL);
                int[] a = usual.clone();
                a[i] = value;
                Snapshot.refused(CHECK, "51: argument " + i + " is " + value, Check.ARGUMENT, x,
                        () -> x.addOrder(a[0], a[1], a[2], a[3]));
            }
            for (int value : new int[] {least[i], greatest[i]}) {
                RodYard x = Yards.of(SMALL);
                int[] a = usual.clone();
                a[i] = value;
                CHECK.same("51: argument " + i + " is " + value, x.addOrder(a[0], a[1], a[2], a[3]), 2);
                for (int what = 0; what < 4; what++) {
                    CHECK.same("11: what " + what, x.order(2, what), a[what]);
                }
                CHECK.same("11: lacking", x.order(2, 4), a[1]);
            }
        }
    }

    /** Both at once: 16 orders, and an argument out of its range. */
    private static void fullAndOutOfRange() {
        RodYard x = Yards.of(EMPTY);
        for (int o = 0; o < 16; o++) {
            x.addOrder(200, 9, 99, 999);
        }
        Snapshot.refused(CHECK, "51: full, and out of range", Check.ARGUMENT, x, () -> x.addOrder(0, 0, -1, -1));
        Snapshot.refused(CHECK, "51: full, and in range", Check.ARGUMENT, x, () -> x.addOrder(1, 1, 0, 0));
    }

    /** "it gets pieces of its length from the store at once, as many as there are and as it lacks" */
    private static void fromTheStore() {
        for (int stored = 0; stored <= 4; stored++) {
            RodYard x = Yards.of("yard kerf 0 keep 1;kind 100 1;rods 0 1");
            for (int i = 0; i < stored; i++) {
                x.cutPiece(0, 7);
            }
            x.cutPiece(0, 6);
            x.cutPiece(0, 8);
            int cuts = x.cuts();
            int got = Math.min(stored, 3);
            String what = "51: " + stored + " are stored, ";
            CHECK.same(what + "its number", x.addOrder(7, 3, 9, 0), 0);
            CHECK.same(what + "in time", x.order(0, 5), got);
            CHECK.same(what + "late", x.order(0, 6), 0);
            CHECK.same(what + "lacking", x.order(0, 4), 3 - got);
            CHECK.same(what + "earned", x.account(4), 9 * got);
            CHECK.same(what + "stored then", x.stored(7), stored - got);
            CHECK.same(what + "one unit less", x.stored(6), 1);
            CHECK.same(what + "one unit more", x.stored(8), 1);
            CHECK.same(what + "nothing is cut", x.cuts(), cuts);
            CHECK.same(what + "pieces cut", x.account(5), cuts);
            CHECK.same(what + "open", x.count(5), got < 3 ? 1 : 0);
        }
    }

    /** "they are in time or late, and earn, as told" */
    private static void fromTheStoreLate() {
        RodYard x = Yards.of("yard kerf 0 keep 1;kind 100 1;rods 0 1");
        for (int i = 0; i < 6; i++) {
            x.cutPiece(0, 7);
        }
        x.endRound();
        x.addOrder(7, 1, 9, 2);
        CHECK.same("51: ahead of DUE", x.order(0, 5), 1);
        x.addOrder(7, 1, 9, 1);
        CHECK.same("51: at DUE", x.order(1, 5), 1);
        CHECK.same("38: earned in time", x.account(4), 18);
        x.addOrder(7, 2, 9, 0);
        CHECK.same("51: behind DUE", x.order(2, 6), 2);
        CHECK.same("51: none in time", x.order(2, 5), 0);
        CHECK.same("38: earned late", x.account(4), 26);
        CHECK.same("38: late pieces", x.account(6), 2);
        CHECK.same("38: pieces cut", x.account(5), 6);
        CHECK.same("17: stored", x.stored(7), 2);
    }

    // ---- promises 52 and 53

    /** "IllegalArgumentException if it is not open"; "Returns how many pieces were lacking (it lacks none then)." */
    private static void cancelOpenOrder() {
        RodYard x = Yards.of("yard kerf 0 keep 1;kind 100 1;rods 0 1;order 5 9 0 0;order 6 2 0 0;order 7 1 0 0");
        CHECK.same("52: all are lacking", x.cancel(0), 9);
        CHECK.same("52: it lacks none then", x.order(0, 4), 0);
        CHECK.same("52: cancelled", x.order(0, 7), 1);
        Snapshot.refused(CHECK, "52: cancelled already", Check.ARGUMENT, x, () -> x.cancel(0));
        x.cutPiece(0, 6);
        CHECK.same("52: one is lacking", x.cancel(1), 1);
        CHECK.same("52: the piece in time stays", x.order(1, 5), 1);
        x.cutPiece(0, 7);
        Snapshot.refused(CHECK, "52: filled", Check.ARGUMENT, x, () -> x.cancel(2));
        x.cutPiece(0, 8);
        x.addOrder(8, 1, 0, 0);
        Snapshot.refused(CHECK, "52: filled from the store", Check.ARGUMENT, x, () -> x.cancel(3));
        x.undo();
        x.undo();
        x.undo();
        CHECK.same("52: not filled any more", x.cancel(2), 1);
    }

    /** "IndexOutOfBoundsException if there is no such order", which is listed ahead of IllegalArgumentException. */
    private static void noSuchOrder() {
        RodYard x = Yards.of(SMALL);
        Snapshot.refusedBeyond(CHECK, "52: order", Check.INDEX, x, 2, x::cancel);
        CHECK.same("52: the last order", x.cancel(1), 2);
        CHECK.same("52: the first order", x.cancel(0), 3);
        Snapshot.refusedBeyond(CHECK, "52: order, when none is open", Check.INDEX, x, 2, x::cancel);
        CHECK.fails("52: no orders", Check.INDEX, () -> Yards.of(EMPTY).cancel(0));
    }

    /** "Scraps a rod in stock: its length is lost, and becomes 0."; "if it is not in stock" */
    private static void scrapInStock() {
        RodYard x = Yards.of("yard kerf 0 keep 6;kind 200 9;kind 10 2;rods 0 1;rods 1 3");
        CHECK.same("53: the greatest length", x.scrap(0), 200);
        CHECK.same("53: its length", x.rod(0, 1), 0);
        CHECK.same("53: its state", x.rod(0, 2), 2);
        CHECK.same("38: its units", x.account(2), 200);
        CHECK.same("38: its cost", x.account(3), 1800);
        Snapshot.refused(CHECK, "53: scrapped already", Check.ARGUMENT, x, () -> x.scrap(0));
        x.cutPiece(1, 9);
        CHECK.same("53: the least length", x.scrap(1), 1);
        CHECK.same("38: its cost", x.account(3), 1802);
        x.cutPiece(2, 10);
        Snapshot.refused(CHECK, "53: used up", Check.ARGUMENT, x, () -> x.scrap(2));
        x.cutPiece(3, 5);
        x.endRound();
        Snapshot.refused(CHECK, "53: scrapped at the end of the round", Check.ARGUMENT, x, () -> x.scrap(3));
        x.undo();
        CHECK.same("53: not scrapped any more", x.scrap(3), 5);
        CHECK.same("49: nothing more is lost by the round", x.endRound(), 0);
    }

    /** "IndexOutOfBoundsException if there is no such rod", which is listed ahead of IllegalArgumentException. */
    private static void noSuchRodToScrap() {
        RodYard x = Yards.of(SMALL);
        Snapshot.refusedBeyond(CHECK, "53: rod", Check.INDEX, x, 3, x::scrap);
        CHECK.same("53: the last rod", x.scrap(2), 60);
        CHECK.same("53: the first rod", x.scrap(0), 100);
        CHECK.same("53: the other rod", x.scrap(1), 100);
        Snapshot.refusedBeyond(CHECK, "53: rod, when none is in stock", Check.INDEX, x, 3, x::scrap);
        CHECK.fails("53: no rods", Check.INDEX, () -> Yards.of(EMPTY).scrap(0));
    }

    // ---- promise 54

    /** "0 KERF, 1 KEEP"; "a value as in a text (section 6)"; "if what or value is out of range" */
    private static void settingOutOfRange() {
        int[] least = {0, 1};
        int[] greatest = {9, 200};
        for (int setting = 0; setting < 2; setting++) {
            int what = setting;
            RodYard x = Yards.of(SMALL);
            for (int value : new int[] {least[what] - 1, greatest[what] + 1, -1, Integer.MIN_VALUE,
                    Integer.MAX_VALUE}) {
                Snapshot.refused(CHECK, "54: setting " + what + " to " + value, Check.ARGUMENT, x,
                        () -> x.setSetting(what, value));
            }
            x.setSetting(what, least[what]);
            CHECK.same("54: the least", x.setting(what), least[what]);
            x.setSetting(what, greatest[what]);
            CHECK.same("54: the greatest", x.setting(what), greatest[what]);
            CHECK.same("14: the other setting stays", x.setting(1 - what), what == 0 ? 20 : 2);
        }
        RodYard x = Yards.of(SMALL);
        for (int value : new int[] {0, 1, 9, 200, 201, -1}) {
            Snapshot.refusedBeyond(CHECK, "54: what, " + value, Check.ARGUMENT, x, 2, what -> x.setSetting(what,
                    value));
        }
    }

    /** "Returns the previous value." */
    private static void previousValue() {
        RodYard x = Yards.of(SMALL);
        CHECK.same("54: KERF of the text", x.setSetting(0, 0), 2);
        CHECK.same("54: KERF ahead", x.setSetting(0, 9), 0);
        CHECK.same("54: KERF, the same", x.setSetting(0, 9), 9);
        CHECK.same("54: KEEP of the text", x.setSetting(1, 1), 20);
        CHECK.same("54: KEEP ahead", x.setSetting(1, 200), 1);
        x.undo();
        CHECK.same("54: KEEP behind undo", x.setSetting(1, 7), 1);
        CHECK.fails("54: a wrong value", Check.ARGUMENT, () -> x.setSetting(1, 0));
        CHECK.same("54: KEEP behind a wrong value", x.setSetting(1, 8), 7);
    }

    /** "Sets a setting": it holds from the next cut and the next end of a round on. */
    private static void settingAtOnce() {
        RodYard x = Yards.of("yard kerf 0 keep 1;kind 100 1;rods 0 2");
        x.cutPiece(0, 10);
        x.setSetting(0, 9);
        CHECK.same("54: what is left by the new KERF", x.left(0, 10), 71);
        x.cutPiece(0, 10);
        CHECK.same("38: units by the new KERF", x.account(1), 9);
        x.setSetting(1, 71);
        CHECK.same("54: KEEP is what is left", x.endRound(), 0);
        x.undo();
        x.setSetting(1, 72);
        CHECK.same("54: KEEP is one unit more", x.endRound(), 71);
    }

    // ---- promises 55 and 56, and section 7

    /** "IllegalStateException if there is none" */
    private static void undoOfNone() {
        RodYard none = new RodYard();
        Snapshot.refused(CHECK, "55: without a yard", Check.STATE, none, none::undo);
        CHECK.same("56: without a yard", none.undoable(), 0);
        RodYard x = Yards.of(SMALL);
        Snapshot.refused(CHECK, "55: behind load", Check.STATE, x, x::undo);
        x.scrap(0);
        CHECK.same("56: one", x.undoable(), 1);
        CHECK.same("55: the only one", x.undo(), 0);
        Snapshot.refused(CHECK, "55: all are undone", Check.STATE, x, x::undo);
        CHECK.same("56: none", x.undoable(), 0);
    }

    /** "Only the latest 8 changes [..] are kept"; "the number of changes that can still be undone" */
    private static void eightChanges() {
        for (int changes = 0; changes <= 20; changes++) {
            RodYard x = Yards.of(EMPTY);
            for (int i = 1; i <= changes; i++) {
                x.endRound();
                CHECK.same("56: undoable", x.undoable(), Math.min(i, 8));
            }
            int kept = Math.min(changes, 8);
            for (int i = 1; i <= kept; i++) {
                CHECK.same("55: still to be undone", x.undo(), kept - i);
                CHECK.same("15: the latest one first", x.round(), changes - i);
            }
            Snapshot.refused(CHECK, "55: no more of " + changes, Check.STATE, x, x::undo);
        }
    }

    private static void change(RodYard x, int number) {
        switch (number) {
            case 0:
                x.cutPiece(0, 30);
                break;
            case 1:
                x.cutPattern(1, 1);
                break;
            case 2:
                x.fill(1);
                break;
            case 3:
                x.endRound();
                break;
            case 4:
                x.buy(1);
                break;
            case 5:
                x.addOrder(30, 2, 5, 0);
                break;
            case 6:
                x.cancel(2);
                break;
            case 7:
                x.scrap(3);
                break;
            default:
                x.setSetting(0, 0);
        }
    }

    /** "Undoes the latest change that has not been undone": all that each kind of change changed. */
    private static void undoOfEach() {
        RodYard x = Yards.of(SMALL);
        for (int number = 0; number < 9; number++) {
            int kept = x.undoable();
            String ahead = Snapshot.of(x);
            change(x, number);
            String behind = Snapshot.of(x);
            CHECK.same("55: change " + number + " shows", ahead.equals(behind), false);
            x.undo();
            // Behind the eighth change one more is forgotten.
            CHECK.sameText("55: undo of change " + number, Snapshot.of(x),
                    kept == 8 ? ahead.replace("undoable 8", "undoable 7") : ahead);
            change(x, number);
            CHECK.sameText("55: change " + number + " again", Snapshot.of(x), behind);
        }
    }

    /** Rods and orders whose coming was undone are there no more, and no question counts them. */
    private static void undoneNumbers() {
        RodYard x = Yards.of(SMALL);
        x.cutPiece(0, 70);
        x.cutPiece(1, 70);
        x.endRound();
        x.save(0);
        String ahead = Snapshot.questions(x);
        x.buy(0);
        x.addOrder(40, 9, 9, 0);
        x.addOrder(100, 9, 9, 0);
        CHECK.same("55: other answers", Snapshot.questions(x).equals(ahead), false);
        for (int i = 0; i < 3; i++) {
            x.undo();
        }
        CHECK.sameText("55: answers behind undo", Snapshot.questions(x), ahead);
        x.buy(0);
        x.buy(0);
        x.addOrder(99, 9, 9, 0);
        x.restore(0);
        CHECK.sameText("58: answers behind restore", Snapshot.questions(x), ahead);
        Snapshot.refused(CHECK, "55: the rod's number", Check.INDEX, x, () -> x.scrap(3));
        Snapshot.refused(CHECK, "55: the order's number", Check.INDEX, x, () -> x.cancel(2));
        CHECK.same("50: the rod's number again", x.buy(0), 3);
        CHECK.same("51: the order's number again", x.addOrder(7, 1, 1, 1), 2);
    }

    /** "each call of one of them that succeeds is a change, even if nothing is different then" */
    private static void changeOfNothing() {
        RodYard x = Yards.of(EMPTY);
        x.fill(0);
        CHECK.same("56: fill that cuts nothing", x.undoable(), 1);
        x.setSetting(0, 0);
        CHECK.same("56: the same KERF", x.undoable(), 2);
        x.setSetting(1, 1);
        CHECK.same("56: the same KEEP", x.undoable(), 3);
        x.endRound();
        CHECK.same("55: undo of the round", x.undo(), 3);
        CHECK.same("15: the round", x.round(), 0);
        CHECK.same("55: undo of nothing different", x.undo(), 2);
        for (int i = 0; i < 8; i++) {
            x.fill(3);
        }
        CHECK.same("56: eight that cut nothing", x.undoable(), 8);
    }

    /** "the latest change that has not been undone": a change behind undo comes in the place of what was undone. */
    private static void changesBehindUndo() {
        RodYard x = Yards.of(EMPTY);
        for (int i = 0; i < 10; i++) {
            x.addOrder(i + 1, 1, 0, 0);
        }
        for (int i = 0; i < 5; i++) {
            x.undo();
        }
        CHECK.same("8: orders behind undo", x.count(2), 5);
        CHECK.same("56: three are left", x.undoable(), 3);
        for (int i = 0; i < 7; i++) {
            x.addOrder(i + 101, 1, 0, 0);
            CHECK.same("56: behind undo", x.undoable(), Math.min(i + 4, 8));
        }
        CHECK.same("8: orders", x.count(2), 12);
        for (int i = 7; i >= 0; i--) {
            CHECK.same("55: undo", x.undo(), i);
            CHECK.same("8: orders", x.count(2), 4 + i);
        }
        CHECK.same("11: the last order", x.order(3, 0), 4);
        CHECK.fails("55: no more", Check.STATE, x::undo);
    }

    /** "The methods that are documented as changes": save is none, nor are questions, texts and failed calls. */
    private static void noChanges() {
        RodYard x = Yards.of(SMALL);
        x.endRound();
        x.save(0);
        x.save(1);
        x.writeRods();
        x.writeOrder(0);
        x.bestPolicy();
        Yards.put(x, "A");
        CHECK.fails("3: a wrong text", Check.ARGUMENT, () -> x.load(1));
        CHECK.fails("58: no such slot", Check.INDEX, () -> x.restore(2));
        CHECK.fails("53: no such rod", Check.INDEX, () -> x.scrap(3));
        CHECK.same("56: endRound alone", x.undoable(), 1);
        CHECK.same("55: undo", x.undo(), 0);
        CHECK.same("15: round", x.round(), 0);
        CHECK.same("58: save was not undone", x.restore(0), 1);
    }

    // ---- promises 57 and 58

    /** What was there ahead of restore must not show in rods and orders that come later. */
    private static void freshBehindRestore() {
        RodYard x = Yards.of("yard kerf 0 keep 200;kind 100 1;order 30 1 0 0");
        x.save(0);
        x.buy(0);
        x.cutPiece(0, 7);
        x.addOrder(8, 2, 5, 9);
        x.cutPiece(0, 8);
        x.endRound();
        x.buy(0);
        x.addOrder(9, 2, 5, 0);
        x.cutPiece(1, 9);
        x.cutPiece(1, 30);
        x.cancel(1);
        x.cancel(2);
        x.restore(0);
        for (int r = 0; r < 2; r++) {
            CHECK.same("50: buy", x.buy(0), r);
            int[] due = {0, 100, 0, 0, 0};
            for (int what = 0; what < 5; what++) {
                CHECK.same("10: what " + what + " of the new rod " + r, x.rod(r, what), due[what]);
            }
        }
        for (int o = 1; o < 3; o++) {
            CHECK.same("51: addOrder", x.addOrder(8, 3, 6, 7), o);
            int[] due = {8, 3, 6, 7, 3, 0, 0, 0};
            for (int what = 0; what < 8; what++) {
                CHECK.same("11: what " + what + " of the new order " + o, x.order(o, what), due[what]);
            }
        }
        CHECK.same("41: cuts", x.cuts(), 0);
        CHECK.same("17: stored", x.stored(7), 0);
    }

    /** "IndexOutOfBoundsException if there is no such slot": behind or ahead of IllegalStateException. */
    private static void noSuchSlot() {
        RodYard none = new RodYard();
        for (int slot : new int[] {0, 1, -1, 2, Integer.MIN_VALUE, Integer.MAX_VALUE}) {
            boolean there = slot == 0 || slot == 1;
            Snapshot.refused(CHECK, "57: no yard, slot " + slot, Check.STATE, none, () -> none.save(slot));
            Snapshot.refused(CHECK, "58: no yard, slot " + slot, there ? Check.STATE : Check.INDEX, none,
                    () -> none.restore(slot));
        }
        RodYard x = Yards.of(SMALL);
        x.endRound();
        Snapshot.refusedBeyond(CHECK, "57: slot", Check.INDEX, x, 2, x::save);
        Snapshot.refusedBeyond(CHECK, "58: slot, nothing is saved", Check.INDEX, x, 2, x::restore);
        CHECK.same("57: slot 0", x.save(0), 1);
        CHECK.same("57: slot 1", x.save(1), 1);
        x.endRound();
        Snapshot.refusedBeyond(CHECK, "57: slot", Check.INDEX, x, 2, x::save);
        Snapshot.refusedBeyond(CHECK, "58: slot", Check.INDEX, x, 2, x::restore);
        CHECK.same("58: slot 0", x.restore(0), 1);
        CHECK.same("58: slot 1", x.restore(1), 1);
    }

    /** "Saves the state in a slot, in place of what was saved there."; "Returns the round." */
    private static void saveInPlace() {
        RodYard x = Yards.of(EMPTY);
        CHECK.same("57: round 0", x.save(0), 0);
        x.endRound();
        CHECK.same("57: round 1", x.save(0), 1);
        x.endRound();
        CHECK.same("58: round 1", x.restore(0), 1);
        x.endRound();
        x.endRound();
        CHECK.same("57: round 3", x.save(0), 3);
        x.endRound();
        CHECK.same("58: round 3", x.restore(0), 3);
    }

    /** "IllegalStateException if nothing is saved there" */
    private static void restoreOfNothing() {
        RodYard x = Yards.of(EMPTY);
        x.endRound();
        Snapshot.refused(CHECK, "58: nothing in slot 0", Check.STATE, x, () -> x.restore(0));
        Snapshot.refused(CHECK, "58: nothing in slot 1", Check.STATE, x, () -> x.restore(1));
        x.save(1);
        Snapshot.refused(CHECK, "58: nothing in slot 0 alone", Check.STATE, x, () -> x.restore(0));
        CHECK.same("58: slot 1", x.restore(1), 1);
        x.save(0);
        Yards.put(x, EMPTY);
        x.load(EMPTY.length());
        for (int slot = 0; slot < 2; slot++) {
            int s = slot;
            Snapshot.refused(CHECK, "58: no state is saved behind load", Check.STATE, x, () -> x.restore(s));
        }
    }

    /** "Restores what was saved in a slot; it stays saved." */
    private static void restoreStays() {
        RodYard x = Yards.of(SMALL);
        x.cutPiece(0, 40);
        x.endRound();
        x.save(1);
        String saved = Snapshot.of(x).replace("undoable 2", "undoable 0");
        for (int i = 0; i < 3; i++) {
            x.fill(i);
            x.buy(0);
            x.endRound();
            CHECK.same("58: restore", x.restore(1), 1);
            CHECK.sameText("58: as it was saved", Snapshot.of(x), saved);
        }
        x.cutPiece(1, 40);
        x.undo();
        CHECK.same("58: restore behind undo", x.restore(1), 1);
        CHECK.sameText("58: as it was saved, behind undo", Snapshot.of(x), saved);
    }

    /** "Nothing can be undone afterwards."; "since the last successful call of load or restore" */
    private static void restoreForgets() {
        RodYard x = Yards.of(EMPTY);
        x.save(0);
        for (int i = 0; i < 9; i++) {
            x.endRound();
        }
        CHECK.fails("58: no such slot", Check.INDEX, () -> x.restore(2));
        CHECK.fails("58: nothing is saved", Check.STATE, () -> x.restore(1));
        CHECK.same("56: behind failed calls of restore", x.undoable(), 8);
        x.restore(0);
        CHECK.same("56: behind restore", x.undoable(), 0);
        Snapshot.refused(CHECK, "55: behind restore", Check.STATE, x, x::undo);
        x.endRound();
        CHECK.same("56: one change", x.undoable(), 1);
        CHECK.same("55: undo", x.undo(), 0);
        CHECK.same("15: round", x.round(), 0);
        Snapshot.refused(CHECK, "55: no more", Check.STATE, x, x::undo);
    }

    /** "`slot`: 0 or 1": each one for itself. */
    private static void slotsApart() {
        RodYard x = Yards.of(EMPTY);
        x.save(0);
        x.endRound();
        x.save(1);
        x.endRound();
        CHECK.same("58: slot 0", x.restore(0), 0);
        CHECK.same("58: slot 1", x.restore(1), 1);
        CHECK.same("58: slot 0 again", x.restore(0), 0);
        x.save(1);
        CHECK.same("58: slot 1 in its place", x.restore(1), 0);
    }

    /** "The state consists of the round, the settings, the rods, the orders, the store, the log [..]" */
    private static void wholeState() {
        RodYard x = Yards.of(SMALL + ";kind 200 1;rods 2 2");
        String start = Snapshot.of(x);
        x.cutPiece(3, 200);
        x.cutPiece(4, 1);
        x.cutPiece(0, 11);
        x.endRound();
        x.cutPiece(0, 25);
        x.setSetting(0, 4);
        x.setSetting(1, 44);
        x.save(0);
        String first = Snapshot.of(x).replace("undoable 7", "undoable 0");
        for (int i = 0; i < 7; i++) {
            x.undo();
        }
        CHECK.sameText("55: all is undone", Snapshot.of(x), start);
        // The same numbers of rods, orders and cuts, but other ones.
        x.cutPiece(1, 12);
        x.endRound();
        x.endRound();
        x.cutPiece(1, 40);
        x.setSetting(0, 5);
        x.setSetting(1, 55);
        x.save(1);
        String second = Snapshot.of(x).replace("undoable 6", "undoable 0");
        CHECK.same("58: other states", first.equals(second), false);
        x.restore(0);
        CHECK.sameText("58: the first state", Snapshot.of(x), first);
        x.restore(1);
        CHECK.sameText("58: the second state", Snapshot.of(x), second);
        x.restore(0);
        x.endRound();
        x.undo();
        CHECK.sameText("58: the first state again", Snapshot.of(x), first);
    }
}
