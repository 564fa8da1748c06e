/** Promises 25 to 37: each sentence that names a boundary has a test of its own, below its words. */
public final class WhatIfEdgesTest {
    private static final Check CHECK = new Check();
    private static final String EMPTY = "yard kerf 0 keep 1";
    private static final String SMALL = "yard kerf 2 keep 20;kind 100 3;kind 60 5;rods 0 2;rods 1 1;order 40 3 10 1;"
            + "order 25 2 7 0;pattern 40 40;pattern 25 40";

    public static void main(String[] args) {
        fittingPattern();
        fittingWithKerf();
        fittingRodInStock();
        noSuchPatternOrRod();
        patternRodOfSeveral();
        patternRodNone();
        wantedNoMoreOften();
        wantedInAllOrders();
        wantedBits();
        bestOfWholeRod();
        bestWithoutOrders();
        bestNoMoreOften();
        bestInOrders();
        fewestPieces();
        bestOfAll();
        bestWithoutStock();
        noSuchRodToPack();
        policyOutOfRange();
        nothingToFill();
        mostToFill();
        notMoreThanWanted();
        firstDueFirst();
        greatestFirst();
        lengthOfSomeRod();
        rodOfThePolicy();
        patternsThatFit();
        patternsThatAreWanted();
        patternsInOrder();
        patternRodOfTheFill();
        thenPolicyOne();
        lossByKeep();
        lossByKerf();
        lossOfRodsThatWereCut();
        lackingOfAnOrder();
        noSuchOrder();
        bestOfPolicies();
        leastRods();
        twelveRods();
        moreThanFortyRods();
        noSuchKind();
        cheapestOfSeveral();
        cheapestNone();
        roundsThatEnd();
        fortyRounds();
        fillAheadOfBuying();
        questionsChangeNothing();
        CHECK.end();
    }

    // ---- promises 25 to 27

    private static void fitIs(String what, RodYard x, int pattern, int rod, int left) {
        CHECK.same("25: " + what, x.fits(pattern, rod), left >= 0);
        CHECK.same("26: " + what, x.patternLeft(pattern, rod), left);
    }

    /** "A pattern fits a rod in stock if all its lengths can be cut from it, in order." */
    private static void fittingPattern() {
        RodYard x = Yards.of("yard kerf 0 keep 1;kind 21 1;kind 20 1;kind 19 1;kind 1 1;rods 0 1;rods 1 1;"
                + "rods 2 1;rods 3 1;pattern 9 11;pattern 20;pattern 1;pattern 200;pattern 5 4 3 2 1 5");
        int[][] due = {{1, 0, -1, -1}, {1, 0, -1, -1}, {20, 19, 18, 0}, {-1, -1, -1, -1}, {1, 0, -1, -1}};
        for (int p = 0; p < 5; p++) {
            for (int r = 0; r < 4; r++) {
                fitIs("pattern " + p + " and rod " + r, x, p, r, due[p][r]);
            }
        }
    }

    /** "Behind it, KERF units are lost, but not more than the rod still has." */
    private static void fittingWithKerf() {
        RodYard x = Yards.of("yard kerf 3 keep 1;kind 23 1;kind 22 1;kind 24 1;kind 28 1;rods 0 1;rods 1 1;rods 2 1;"
                + "rods 3 1;pattern 10 10;pattern 19 1;pattern 20 1;pattern 22");
        int[][] due = {{0, -1, 0, 2}, {0, -1, 0, 2}, {-1, -1, 0, 1}, {0, 0, 0, 3}};
        for (int p = 0; p < 4; p++) {
            for (int r = 0; r < 4; r++) {
                fitIs("kerf, pattern " + p + " and rod " + r, x, p, r, due[p][r]);
            }
        }
        // What the kerf took is not there for the next length.
        x.setSetting(0, 9);
        fitIs("the kerf takes all", x, 2, 3, -1);
        fitIs("the kerf takes all but the last piece", x, 1, 3, -1);
        x.setSetting(0, 8);
        fitIs("the kerf leaves the last piece", x, 1, 3, 0);
    }

    /** "fits a rod in stock" */
    private static void fittingRodInStock() {
        RodYard x = Yards.of("yard kerf 0 keep 1;kind 9 1;rods 0 3;pattern 1");
        fitIs("in stock", x, 0, 0, 8);
        x.cutPiece(0, 9);
        x.scrap(1);
        fitIs("used up", x, 0, 0, -1);
        fitIs("scrapped", x, 0, 1, -1);
        CHECK.same("27: the only one in stock", x.patternRod(0), 2);
        x.scrap(2);
        CHECK.same("27: none in stock", x.patternRod(0), -1);
    }

    /** "IndexOutOfBoundsException if there is no such pattern or rod" */
    private static void noSuchPatternOrRod() {
        RodYard x = Yards.of(SMALL);
        fitIs("the last pattern and the last rod", x, 1, 2, -1);
        for (int other : new int[] {0, 1, -1, 9}) {
            Snapshot.refusedBeyond(CHECK, "25: pattern", Check.INDEX, x, 2, p -> x.fits(p, other) ? 1 : 0);
            Snapshot.refusedBeyond(CHECK, "25: rod", Check.INDEX, x, 3, r -> x.fits(other, r) ? 1 : 0);
            Snapshot.refusedBeyond(CHECK, "26: pattern", Check.INDEX, x, 2, p -> x.patternLeft(p, other));
            Snapshot.refusedBeyond(CHECK, "26: rod", Check.INDEX, x, 3, r -> x.patternLeft(other, r));
        }
        Snapshot.refusedBeyond(CHECK, "27: pattern", Check.INDEX, x, 2, x::patternRod);
        RodYard noRods = Yards.of("yard kerf 0 keep 1;pattern 1");
        CHECK.fails("25: no rods", Check.INDEX, () -> noRods.fits(0, 0) ? 1 : 0);
        CHECK.fails("26: no rods", Check.INDEX, () -> noRods.patternLeft(0, 0));
        CHECK.same("27: no rods", noRods.patternRod(0), -1);
        CHECK.fails("27: no patterns", Check.INDEX, () -> Yards.of(EMPTY).patternRod(0));
    }

    /** "Finds the rod with the least length that a pattern fits"; "its number, of several the smallest one" */
    private static void patternRodOfSeveral() {
        RodYard x = Yards.of("yard kerf 1 keep 1;kind 50 1;kind 20 1;kind 21 1;rods 0 2;rods 1 2;rods 2 2;"
                + "pattern 10 10;pattern 9 10;pattern 25 25;pattern 24 25");
        CHECK.same("27: of rods 4 and 5", x.patternRod(0), 4);
        CHECK.same("27: of rods 2 and 3", x.patternRod(1), 2);
        CHECK.same("27: one unit more than rod 0 has", x.patternRod(2), -1);
        CHECK.same("27: of rods 0 and 1", x.patternRod(3), 0);
        x.scrap(4);
        CHECK.same("27: of rod 5", x.patternRod(0), 5);
        x.cutPiece(1, 28);
        CHECK.same("27: of rods 1 and 5, which are alike", x.patternRod(0), 1);
        x.scrap(5);
        x.scrap(1);
        CHECK.same("27: of rod 0", x.patternRod(0), 0);
    }

    /** "NONE if it fits none" */
    private static void patternRodNone() {
        RodYard x = Yards.of("yard kerf 1 keep 1;kind 20 1;rods 0 2;pattern 10 10;pattern 9 10");
        CHECK.same("27: one unit too long", x.patternRod(0), -1);
        CHECK.same("27: just not too long", x.patternRod(1), 0);
        x.cutPiece(0, 1);
        x.cutPiece(1, 1);
        CHECK.same("27: too long by then", x.patternRod(1), -1);
    }

    // ---- promise 28

    /** "wanted if for each length the pattern has it no more often than pieces of it are lacking" */
    private static void wantedNoMoreOften() {
        RodYard x = Yards.of("yard kerf 0 keep 1;kind 200 1;rods 0 2;order 10 2 0 0;order 20 1 0 0;pattern 10 10;"
                + "pattern 10 10 10;pattern 20 10 10;pattern 20 20;pattern 30;pattern 10 20 10 30");
        CHECK.same("28: as often, and once more", x.wantedPatterns(), 1 + 4);
        x.cutPiece(0, 10);
        CHECK.same("28: one is lacking no more", x.wantedPatterns(), 0);
        x.addOrder(30, 1, 0, 0);
        CHECK.same("28: another length", x.wantedPatterns(), 16);
        x.undo();
        x.undo();
        x.addOrder(30, 1, 0, 0);
        CHECK.same("28: each length of a pattern", x.wantedPatterns(), 1 + 4 + 16 + 32);
    }

    /** "in all open orders together" */
    private static void wantedInAllOrders() {
        RodYard x = Yards.of("yard kerf 0 keep 1;kind 200 1;rods 0 1;order 10 1 0 0;order 10 1 0 9;order 10 1 0 5;"
                + "pattern 10 10 10;pattern 10 10 10 10;pattern 10 10");
        CHECK.same("28: three orders", x.wantedPatterns(), 1 + 4);
        x.cancel(1);
        CHECK.same("28: two orders", x.wantedPatterns(), 4);
        x.cutPiece(0, 10);
        CHECK.same("28: one order", x.wantedPatterns(), 0);
    }

    /** "Returns a bit set: bit k is set for pattern k." */
    private static void wantedBits() {
        CHECK.same("28: no patterns", Yards.of(EMPTY + ";order 1 1 1 1").wantedPatterns(), 0);
        String six = ";pattern 1;pattern 2;pattern 3;pattern 4;pattern 5;pattern 6";
        CHECK.same("28: no orders", Yards.of(EMPTY + six).wantedPatterns(), 0);
        StringBuilder orders = new StringBuilder();
        for (int k = 0; k < 6; k++) {
            CHECK.same("28: bit " + k, Yards.of(EMPTY + ";order " + (k + 1) + " 1 0 0" + six).wantedPatterns(), 1 << k);
            orders.append(";order ").append(k + 1).append(" 1 0 0");
        }
        CHECK.same("28: all bits", Yards.of(EMPTY + orders + six).wantedPatterns(), 63);
    }

    // ---- promises 29 and 30

    private static void bestIs(String what, RodYard x, int rod, int left, int pieces) {
        CHECK.same("29: " + what, x.bestLeft(rod), left);
        CHECK.same("30: " + what, x.bestPieces(rod), pieces);
    }

    private static RodYard ofTen(int kerf, String orders) {
        return Yards.of("yard kerf " + kerf + " keep 1;kind 10 1;rods 0 1" + orders);
    }

    /** "with KERF behind each piece (section 1)", "but not more than the rod still has" */
    private static void bestOfWholeRod() {
        bestIs("the least piece", ofTen(0, ";order 1 1 0 0"), 0, 9, 1);
        bestIs("one unit less", ofTen(0, ";order 9 1 0 0"), 0, 1, 1);
        bestIs("the whole rod", ofTen(0, ";order 10 1 0 0"), 0, 0, 1);
        bestIs("one unit more", ofTen(0, ";order 11 1 0 0"), 0, 10, 0);
        bestIs("the kerf and one unit", ofTen(3, ";order 6 1 0 0"), 0, 1, 1);
        bestIs("the kerf alone", ofTen(3, ";order 7 1 0 0"), 0, 0, 1);
        bestIs("less than the kerf", ofTen(3, ";order 9 1 0 0"), 0, 0, 1);
        bestIs("nothing for the kerf", ofTen(3, ";order 10 1 0 0"), 0, 0, 1);
        bestIs("one unit more, with kerf", ofTen(3, ";order 11 1 0 0"), 0, 10, 0);
        // The kerf between two pieces is lost in any order.
        bestIs("two pieces and the kerf between", ofTen(3, ";order 3 1 0 0;order 4 1 0 0"), 0, 0, 2);
        bestIs("one unit too long for two", ofTen(3, ";order 4 2 0 0"), 0, 3, 1);
        bestIs("the longer of two", ofTen(3, ";order 4 1 0 0;order 5 1 0 0"), 0, 2, 1);
        bestIs("the greatest kerf", ofTen(9, ";order 1 2 0 0"), 0, 0, 1);
    }

    /** "the present one if nothing can be cut from it" */
    private static void bestWithoutOrders() {
        bestIs("no orders", ofTen(0, ""), 0, 10, 0);
        bestIs("too long pieces alone", ofTen(0, ";order 11 9 0 0;order 200 1 0 0"), 0, 10, 0);
        RodYard x = ofTen(0, ";order 4 1 0 0;order 3 1 0 0");
        bestIs("two orders", x, 0, 3, 2);
        x.cancel(0);
        bestIs("one order", x, 0, 7, 1);
        x.cutPiece(0, 3);
        bestIs("no open order, and what is left is 7", x, 0, 7, 0);
    }

    /** "each length no more often than it is lacking" */
    private static void bestNoMoreOften() {
        bestIs("three times of three", ofTen(0, ";order 3 3 0 0"), 0, 1, 3);
        bestIs("three times of four", ofTen(0, ";order 3 4 0 0"), 0, 1, 3);
        bestIs("two times of two", ofTen(0, ";order 3 2 0 0"), 0, 4, 2);
        bestIs("two orders with one each", ofTen(0, ";order 3 1 0 0;order 3 1 0 9"), 0, 4, 2);
        bestIs("two orders with three", ofTen(0, ";order 3 1 0 0;order 3 2 0 9"), 0, 1, 3);
        RodYard x = ofTen(0, ";order 3 3 0 0");
        x.buy(0);
        x.cutPiece(1, 3);
        bestIs("one is lacking no more", x, 0, 4, 2);
    }

    /** "if wanted pieces were cut from it, in any order" */
    private static void bestInOrders() {
        bestIs("not the greatest first", ofTen(0, ";order 6 1 0 0;order 5 2 0 0"), 0, 0, 2);
        bestIs("not the smallest first", ofTen(0, ";order 2 1 0 0;order 3 1 0 0;order 7 1 0 0"), 0, 0, 2);
        bestIs("not the least DUE first", ofTen(0, ";order 8 1 0 0;order 4 1 0 9;order 6 1 0 9"), 0, 0, 2);
    }

    /** "Returns the least number of pieces with which bestLeft is reached." */
    private static void fewestPieces() {
        bestIs("one piece rather than two", ofTen(0, ";order 5 2 0 0;order 10 1 0 0"), 0, 0, 1);
        bestIs("two pieces rather than ten", ofTen(0, ";order 1 9 0 0;order 1 1 0 0;order 5 2 0 0"), 0, 0, 2);
        bestIs("two rather than three, with something left", ofTen(0, ";order 2 1 0 0;order 3 2 0 0;order 6 1 0 0"), 0,
                1, 2);
        // Nothing is left by 7 and its kerf, by 3 and 1, and by 3 and 4 with less for the last kerf.
        bestIs("one piece, and the whole kerf", ofTen(3, ";order 7 1 0 0;order 3 1 0 0;order 4 1 0 0"), 0, 0, 1);
        bestIs("one piece, and less kerf", ofTen(3, ";order 9 1 0 0;order 3 1 0 0;order 1 1 0 0"), 0, 0, 1);
        bestIs("one piece, and no kerf", ofTen(3, ";order 10 1 0 0;order 3 1 0 0;order 1 1 0 0"), 0, 0, 1);
        bestIs("two pieces that are enough with the kerf", ofTen(3, ";order 3 1 0 0;order 1 1 0 0"), 0, 0, 2);
    }

    /** The longest rod, the greatest kerf, and as many pieces as can be lacking. */
    private static void bestOfAll() {
        String rod = " keep 1;kind 200 1;rods 0 1";
        bestIs("200 of 200", Yards.of("yard kerf 9" + rod + ";order 200 9 0 0"), 0, 0, 1);
        bestIs("199 of 200", Yards.of("yard kerf 0" + rod + ";order 199 9 0 0"), 0, 1, 1);
        RodYard x = Yards.of("yard kerf 0" + rod);
        for (int o = 0; o < 16; o++) {
            x.addOrder(1, 9, 0, 0);
        }
        bestIs("144 pieces of 1", x, 0, 56, 144);
        x.setSetting(0, 1);
        bestIs("100 pieces of 1 with kerf 1", x, 0, 0, 100);
        x.setSetting(0, 9);
        bestIs("20 pieces of 1 with kerf 9", x, 0, 0, 20);
        x.cutPiece(0, 1);
        x.cutPiece(0, 180);
        bestIs("one piece of 1 from 1 with kerf 9", x, 0, 0, 1);
    }

    /** "Returns the length": 0 of a rod that is not in stock, from which nothing can be cut. */
    private static void bestWithoutStock() {
        RodYard x = Yards.of("yard kerf 9 keep 1;kind 10 1;rods 0 3;order 1 9 0 0");
        x.cutPiece(0, 1);
        x.scrap(1);
        bestIs("used up", x, 0, 0, 0);
        bestIs("scrapped", x, 1, 0, 0);
        bestIs("in stock", x, 2, 0, 1);
    }

    /** "IndexOutOfBoundsException if there is no such rod" */
    private static void noSuchRodToPack() {
        RodYard x = Yards.of(SMALL);
        CHECK.same("29: the first", x.bestLeft(0), 4);
        CHECK.same("29: the last", x.bestLeft(2), 6);
        CHECK.same("30: the first", x.bestPieces(0), 3);
        CHECK.same("30: the last", x.bestPieces(2), 2);
        Snapshot.refusedBeyond(CHECK, "29: bestLeft", Check.INDEX, x, 3, x::bestLeft);
        Snapshot.refusedBeyond(CHECK, "30: bestPieces", Check.INDEX, x, 3, x::bestPieces);
        CHECK.fails("29: no rods", Check.INDEX, () -> Yards.of(EMPTY).bestLeft(0));
        CHECK.fails("30: no rods", Check.INDEX, () -> Yards.of(EMPTY).bestPieces(0));
    }

    // ---- promises 31 to 34, and section 4

    private static void filledIs(String what, RodYard x, int policy, int pieces, int loss, int... lacking) {
        CHECK.same("32: " + what + ", policy " + policy, x.lossIf(policy), loss);
        CHECK.same("31: " + what + ", policy " + policy, x.piecesIf(policy), pieces);
        for (int o = 0; o < lacking.length; o++) {
            CHECK.same("33: " + what + ", policy " + policy + ", order " + o, x.lackingIf(policy, o), lacking[o]);
        }
        // The same as if it is done.
        int ahead = x.account(3);
        CHECK.same("48: " + what + ", policy " + policy, x.fill(policy), pieces);
        for (int o = 0; o < lacking.length; o++) {
            CHECK.same("48: " + what + ", policy " + policy + ", order " + o, x.order(o, 4), lacking[o]);
        }
        x.endRound();
        CHECK.same("38: " + what + ", policy " + policy, x.account(3) - ahead, loss);
        x.undo();
        x.undo();
    }

    /** The lengths and rods of the cuts that a fill makes. */
    private static void cutsAre(String what, RodYard x, int policy, int... lengthsAndRods) {
        int ahead = x.cuts();
        CHECK.same("48: " + what, x.fill(policy), lengthsAndRods.length / 2);
        for (int k = 0; k < lengthsAndRods.length / 2; k++) {
            CHECK.same("48: " + what + ", length of cut " + k, x.cut(ahead + k, 2), lengthsAndRods[2 * k]);
            CHECK.same("48: " + what + ", rod of cut " + k, x.cut(ahead + k, 1), lengthsAndRods[2 * k + 1]);
        }
        x.undo();
    }

    /** "`policy`: 0 to 3"; "IllegalArgumentException if policy is out of range" */
    private static void policyOutOfRange() {
        RodYard x = Yards.of(SMALL);
        for (int policy = 0; policy < 4; policy++) {
            CHECK.same("31: policy " + policy, x.piecesIf(policy), 5);
        }
        Snapshot.refusedBeyond(CHECK, "31: piecesIf", Check.ARGUMENT, x, 4, x::piecesIf);
        Snapshot.refusedBeyond(CHECK, "32: lossIf", Check.ARGUMENT, x, 4, x::lossIf);
        for (int order = 0; order < 2; order++) {
            int o = order;
            Snapshot.refusedBeyond(CHECK, "33: lackingIf", Check.ARGUMENT, x, 4, policy -> x.lackingIf(policy, o));
        }
        Snapshot.refusedBeyond(CHECK, "48: fill", Check.ARGUMENT, x, 4, x::fill);
    }

    /** "This goes on until no wanted piece can be cut from any rod in stock": from the start. */
    private static void nothingToFill() {
        for (int policy = 0; policy < 4; policy++) {
            filledIs("no rods and no orders", Yards.of(EMPTY), policy, 0, 0);
            filledIs("no rods", Yards.of(EMPTY + ";order 1 9 0 0;pattern 1"), policy, 0, 0, 9);
            filledIs("no orders", Yards.of("yard kerf 9 keep 200;kind 9 9;rods 0 9;pattern 1"), policy, 0, 0);
            filledIs("one unit too long", ofTen(0, ";order 11 9 0 0;pattern 11"), policy, 0, 0, 9);
            RodYard x = ofTen(0, ";order 10 1 0 0;pattern 10");
            filledIs("just not too long", x, policy, 1, 0, 0);
            x.scrap(0);
            filledIs("not in stock", x, policy, 0, 0, 1);
        }
    }

    /** "This goes on until no wanted piece can be cut": of as many as can be lacking. */
    private static void mostToFill() {
        for (int policy = 0; policy < 4; policy++) {
            RodYard x = Yards.of("yard kerf 0 keep 1;kind 36 1;rods 0 4;pattern 1 1 1 1 1 1");
            for (int o = 0; o < 16; o++) {
                x.addOrder(1, 9, 0, 0);
            }
            CHECK.same("31: all pieces by policy " + policy, x.piecesIf(policy), 144);
            CHECK.same("33: the last order by policy " + policy, x.lackingIf(policy, 15), 0);
            CHECK.same("48: all pieces by policy " + policy, x.fill(policy), 144);
            CHECK.same("48: no rod is left by policy " + policy, x.count(4), 0);
            CHECK.same("8: nothing is lacking by policy " + policy, x.count(6), 0);
            x.undo();
            x.cutPiece(3, 2);
            CHECK.same("31: two units less by policy " + policy, x.piecesIf(policy), 142);
        }
    }

    /** "take the wanted pieces (those that are lacking in open orders)": no more, and none for the store. */
    private static void notMoreThanWanted() {
        for (int policy = 0; policy < 4; policy++) {
            RodYard x = Yards.of("yard kerf 0 keep 1;kind 100 1;rods 0 2;order 10 3 0 0;order 20 1 0 0;pattern 10;"
                    + "pattern 20");
            x.cutPiece(0, 10);
            x.cancel(1);
            filledIs("two are lacking", x, policy, 2, 0, 0, 0);
            x.fill(policy);
            CHECK.same("48: none for the store by policy " + policy, x.count(7), 0);
        }
    }

    /** "policy 0 takes the length of the open order with the least DUE, of several the smallest number" */
    private static void firstDueFirst() {
        RodYard x = Yards.of("yard kerf 0 keep 1;kind 100 1;rods 0 1;order 10 1 0 3;order 20 2 0 2;order 30 1 0 2;"
                + "order 40 1 0 1;order 20 1 0 0");
        cutsAre("the least DUE", x, 0, 20, 0, 40, 0, 20, 0, 20, 0);
        x.cancel(3);
        cutsAre("of several the smallest number", x, 0, 20, 0, 20, 0, 20, 0, 30, 0, 10, 0);
        // A length that is due first, but too long, is passed over, now and later.
        RodYard y = Yards.of("yard kerf 0 keep 1;kind 100 1;rods 0 1;order 101 1 0 0;order 60 2 0 1;order 20 3 0 2");
        cutsAre("that can be cut from some rod", y, 0, 60, 0, 20, 0, 20, 0);
    }

    /** "and the policies 1 and 2 take the greatest length" */
    private static void greatestFirst() {
        RodYard x = Yards.of("yard kerf 0 keep 1;kind 100 1;rods 0 1;order 10 1 0 0;order 30 2 0 1;order 31 1 0 2;"
                + "order 101 1 0 0");
        cutsAre("the greatest", x, 1, 31, 0, 30, 0, 30, 0);
        cutsAre("the greatest", x, 2, 31, 0, 30, 0, 30, 0);
        cutsAre("the least DUE", x, 0, 10, 0, 30, 0, 30, 0);
        x.cancel(2);
        cutsAre("the greatest of open orders", x, 1, 30, 0, 30, 0, 10, 0);
        cutsAre("the greatest of open orders", x, 2, 30, 0, 30, 0, 10, 0);
    }

    /** "of the lengths of open orders that can be cut from some rod in stock" */
    private static void lengthOfSomeRod() {
        for (int policy = 0; policy < 3; policy++) {
            RodYard x = Yards.of("yard kerf 5 keep 1;kind 50 1;kind 60 1;rods 0 1;rods 1 1;order 60 9 0 0;"
                    + "order 50 9 0 1");
            cutsAre("60 of 60, then 50 of 50", x, policy, 60, 1, 50, 0);
            x.scrap(1);
            cutsAre("50 of 50", x, policy, 50, 0);
            x.scrap(0);
            cutsAre("none", x, policy);
        }
    }

    /** "by policy 0 [..] the smallest number, by policy 1 [..] the least length, by policy 2 [..] the greatest" */
    private static void rodOfThePolicy() {
        RodYard x = Yards.of("yard kerf 0 keep 1;kind 50 1;kind 40 1;kind 60 1;rods 0 1;rods 1 2;rods 2 2;"
                + "order 30 4 0 0");
        cutsAre("the smallest number", x, 0, 30, 0, 30, 1, 30, 2, 30, 3);
        cutsAre("the least length", x, 1, 30, 1, 30, 2, 30, 0, 30, 3);
        cutsAre("the greatest length", x, 2, 30, 3, 30, 4, 30, 0, 30, 1);
    }

    /** "as long as the pattern is wanted and fits some rod" */
    private static void patternsThatFit() {
        String text = "yard kerf 0 keep 1;kind 30 1;rods 0 2;order 15 9 0 0;order 1 9 0 0;pattern 15 15;pattern 1";
        RodYard x = Yards.of(text);
        cutsAre("30 of 30", x, 3, 15, 0, 15, 0, 15, 1, 15, 1);
        x.cutPiece(1, 4);
        x.addOrder(13, 1, 0, 0);
        // 15 15 fits rod 0 alone; then 1 as often as it is wanted, from the rod with the least length.
        cutsAre("30 of 30, and none of 26", x, 3, 15, 0, 15, 0, 1, 1, 1, 1, 1, 1, 1, 1, 1, 1, 1, 1, 1, 1, 1, 1, 1, 1,
                15, 1);
        RodYard none = Yards.of("yard kerf 0 keep 1;kind 29 1;rods 0 1;order 15 2 0 0;order 20 1 0 0;pattern 15 15");
        cutsAre("wanted, but one unit too long", none, 3, 20, 0);
        none.scrap(0);
        cutsAre("wanted, but nothing in stock", none, 3);
    }

    /** "A pattern is wanted if for each length [..] no more often than [..] lacking": the last time that it is. */
    private static void patternsThatAreWanted() {
        String text = "yard kerf 0 keep 1;kind 100 1;rods 0 3;order 10 4 0 0;order 50 1 0 0;pattern 10 10";
        cutsAre("twice, and not a third time", Yards.of(text), 3, 10, 0, 10, 0, 10, 0, 10, 0, 50, 0);
        RodYard x = Yards.of(text);
        x.cutPiece(2, 10);
        // Rod 2 has the least length, 90. One 10 is lacking when the pattern is wanted no more.
        cutsAre("once, and not a second time", x, 3, 10, 2, 10, 2, 50, 2, 10, 2);
        CHECK.same("47: not once into the store", x.piecesIf(3), 4);
    }

    /** "Policy 3 first goes through the patterns, in order" */
    private static void patternsInOrder() {
        String text = "yard kerf 0 keep 1;kind 100 1;rods 0 2;order 10 3 0 9;order 20 3 0 0";
        cutsAre("10 20 first", Yards.of(text + ";pattern 10 20;pattern 10;pattern 20"), 3, 10, 0, 20, 0, 10, 0, 20, 0,
                10, 0, 20, 0);
        cutsAre("10 first", Yards.of(text + ";pattern 10;pattern 20 10;pattern 20"), 3, 10, 0, 10, 0, 10, 0, 20, 0, 20,
                0, 20, 0);
        cutsAre("20 10 first", Yards.of(text + ";pattern 20 10 20;pattern 10 10"), 3, 20, 0, 10, 0, 20, 0, 10, 0, 10, 0,
                20, 0);
        // A pattern that was passed is not looked at again.
        cutsAre("a pattern that was passed", Yards.of(text + ";pattern 20 20 20 20;pattern 10 10;pattern 10"), 3, 10, 0,
                10, 0, 10, 0, 20, 0, 20, 0, 20, 0);
    }

    /** "it is cut from the rod with the least length that it fits (of several the smallest number)" */
    private static void patternRodOfTheFill() {
        RodYard x = Yards.of("yard kerf 0 keep 1;kind 50 1;kind 40 1;kind 39 1;rods 0 1;rods 1 2;rods 2 1;"
                + "order 20 8 0 0;pattern 20 20");
        cutsAre("the least length that it fits", x, 3, 20, 1, 20, 1, 20, 2, 20, 2, 20, 0, 20, 0, 20, 3);
    }

    /** "then it goes on as policy 1" */
    private static void thenPolicyOne() {
        // Policy 0 would take 10 first; policy 2 would cut 30 from rod 0.
        RodYard x = Yards.of("yard kerf 0 keep 1;kind 100 1;kind 35 1;rods 0 1;rods 1 1;order 10 2 0 0;order 30 1 0 9;"
                + "order 90 1 0 5;pattern 10 10 10");
        cutsAre("as policy 1", x, 3, 90, 0, 30, 1, 10, 0);
        cutsAre("policy 1", x, 1, 90, 0, 30, 1, 10, 0);
        cutsAre("not as policy 0", x, 0, 10, 0, 10, 0, 30, 0);
        x.cancel(2);
        cutsAre("as policy 1, without 90", x, 3, 30, 1, 10, 0, 10, 0);
        cutsAre("not as policy 2", x, 2, 30, 0, 10, 0, 10, 0);
    }

    /** "whose length is less than KEEP, is scrapped" */
    private static void lossByKeep() {
        for (int policy = 0; policy < 4; policy++) {
            filledIs("KEEP is one unit more", Yards.of("yard kerf 0 keep 6;kind 10 7;rods 0 1;order 5 1 0 0"), policy,
                    1, 35, 0);
            filledIs("KEEP is what is left", Yards.of("yard kerf 0 keep 5;kind 10 7;rods 0 1;order 5 1 0 0"), policy, 1,
                    0, 0);
            filledIs("nothing is left", Yards.of("yard kerf 0 keep 200;kind 10 7;rods 0 1;order 10 1 0 0"), policy, 1,
                    0, 0);
        }
    }

    /** "A loss of units of a rod (by KERF, or when it is scrapped) costs the PRICE of its kind for each unit." */
    private static void lossByKerf() {
        String kinds = ";kind 10 99;kind 9 1;rods 0 1;rods 1 1";
        for (int policy = 0; policy < 4; policy++) {
            // Policy 2 cuts 9 from 10, and 6 from 9.
            filledIs("the whole kerf, and one unit",
                    Yards.of("yard kerf 3 keep 9" + kinds + ";order 6 1 0 0;order 9 1 0 0"),
                    policy, 2, policy == 2 ? 99 + 3 : 3 * 99 + 99, 0, 0);
            filledIs("the whole kerf", Yards.of("yard kerf 3 keep 9" + kinds + ";order 10 1 0 0;order 6 1 0 0"), policy,
                    2, 3, 0, 0);
            filledIs("no unit for the kerf", Yards.of("yard kerf 9 keep 9" + kinds + ";order 10 1 0 0;order 9 1 0 0"),
                    policy, 2, 0, 0, 0);
            filledIs("one unit for the kerf", Yards.of("yard kerf 9 keep 9" + kinds + ";order 9 2 0 0"), policy, 2, 99,
                    0);
        }
    }

    /** "each rod in stock that was cut in this round": none that was not, and none that was cut in an earlier one. */
    private static void lossOfRodsThatWereCut() {
        for (int policy = 0; policy < 4; policy++) {
            RodYard x = Yards.of("yard kerf 0 keep 1;kind 10 7;rods 0 3;order 9 1 0 0");
            x.cutPiece(2, 5);
            x.endRound();
            x.setSetting(1, 200);
            filledIs("one unit of the rod that is cut", x, policy, 1, 7, 0);
            x.cancel(0);
            filledIs("no rod is cut", x, policy, 0, 0, 0);
        }
    }

    // ---- promise 33

    /** "Returns the number; 0 if it is cancelled." */
    private static void lackingOfAnOrder() {
        for (int policy = 0; policy < 4; policy++) {
            RodYard x = ofTen(0, ";order 5 9 0 0;order 11 9 0 0;order 4 1 0 9");
            CHECK.same("33: some are cut", x.lackingIf(policy, 0), 7);
            CHECK.same("33: none can be cut", x.lackingIf(policy, 1), 9);
            x.cancel(1);
            CHECK.same("33: it is cancelled", x.lackingIf(policy, 1), 0);
            x.cancel(0);
            CHECK.same("33: all are cut", x.lackingIf(policy, 2), 0);
            x.cutPiece(0, 4);
            CHECK.same("33: it is filled already", x.lackingIf(policy, 2), 0);
        }
    }

    /** "IndexOutOfBoundsException if there is no such order", which is listed ahead of IllegalArgumentException. */
    private static void noSuchOrder() {
        RodYard x = Yards.of(SMALL);
        CHECK.same("33: the last order", x.lackingIf(3, 1), 0);
        for (int policy : new int[] {0, 3, -1, 4}) {
            Snapshot.refusedBeyond(CHECK, "33: order, policy " + policy, Check.INDEX, x, 2, o -> x.lackingIf(policy,
                    o));
            CHECK.fails("33: no orders", Check.INDEX, () -> Yards.of(EMPTY).lackingIf(policy, 0));
        }
    }

    // ---- promise 34

    private static void bestPolicyIs(String what, RodYard x, int best, int... piecesAndLosses) {
        for (int policy = 0; policy < 4; policy++) {
            filledIs(what, x, policy, piecesAndLosses[2 * policy], piecesAndLosses[2 * policy + 1]);
        }
        Snapshot.asked(CHECK, "34: " + what, best, x, x::bestPolicy);
    }

    /** "most pieces would be cut now; of several the one with the least lossIf"; "of several the smallest one" */
    private static void bestOfPolicies() {
        bestPolicyIs("all are alike", Yards.of(EMPTY), 0, 0, 0, 0, 0, 0, 0, 0, 0);
        bestPolicyIs("policy 0 cuts most, and loses most",
                Yards.of("yard kerf 1 keep 1;kind 9 1;rods 0 1;order 4 2 0 0;"
                + "order 9 1 0 9"), 0, 2, 1, 1, 0, 1, 0, 1, 0);
        bestPolicyIs("policy 3 cuts most, and loses most",
                Yards.of("yard kerf 1 keep 1;kind 9 1;rods 0 1;order 9 1 0 0;"
                + "order 4 2 0 9;pattern 4 4"), 3, 1, 0, 1, 0, 1, 0, 2, 1);
        bestPolicyIs("1 and 3 lose least", Yards.of("yard kerf 0 keep 70;kind 100 1;kind 40 1;rods 0 1;rods 1 1;"
                + "order 40 1 0 0"), 1, 1, 60, 1, 0, 1, 60, 1, 0);
        bestPolicyIs("2 loses least", Yards.of("yard kerf 0 keep 60;kind 50 1;kind 100 1;rods 0 1;rods 1 1;"
                + "order 30 1 0 0"), 2, 1, 20, 1, 20, 1, 0, 1, 20);
        bestPolicyIs("0 and 2 lose least", Yards.of("yard kerf 0 keep 60;kind 100 1;kind 50 1;rods 0 1;rods 1 1;"
                + "order 30 1 0 0"), 0, 1, 0, 1, 20, 1, 0, 1, 20);
        bestPolicyIs("3 loses least",
                Yards.of("yard kerf 0 keep 25;kind 30 1;kind 35 1;rods 0 1;rods 1 1;order 20 1 0 0;"
                + "order 15 1 0 0;pattern 20 15"), 3, 2, 30, 2, 30, 2, 30, 2, 0);
    }

    // ---- promise 35

    /** "Returns the least number of rods of a kind that would have to be bought"; "Returns 0 to 12" */
    private static void leastRods() {
        RodYard x = Yards.of("yard kerf 0 keep 1;kind 10 1;rods 0 1");
        CHECK.same("35: no orders", x.rodsNeeded(0), 0);
        x.addOrder(10, 1, 0, 0);
        CHECK.same("35: one rod is there", x.rodsNeeded(0), 0);
        x.addOrder(10, 1, 0, 0);
        CHECK.same("35: one more is needed", x.rodsNeeded(0), 1);
        x.cutPiece(0, 1);
        CHECK.same("35: two more are needed", x.rodsNeeded(0), 2);
        x.addOrder(11, 1, 0, 0);
        CHECK.same("35: no number is enough", x.rodsNeeded(0), -1);
        x.cancel(2);
        CHECK.same("35: two more are needed again", x.rodsNeeded(0), 2);
        // The least number is not the rounded up sum: 6 and 4, 6 and 4 by policy 1; 4 and 4 first by policy 0.
        CHECK.same("35: by policy 1",
                Yards.of("yard kerf 0 keep 1;kind 10 1;order 4 2 0 0;order 6 2 0 9").rodsNeeded(0), 2);
        String orders = ";order 60 1 0 0;order 45 1 0 0;order 40 1 0 0;order 30 1 0 0;order 25 1 0 0";
        CHECK.same("35: not by policy 2", Yards.of("yard kerf 0 keep 1;kind 100 1" + orders).rodsNeeded(0), 2);
        CHECK.same("35: with kerf", Yards.of("yard kerf 1 keep 1;kind 10 1;order 4 2 0 0;order 6 2 0 9").rodsNeeded(0),
                3);
    }

    /** "NONE if 12 are not enough" */
    private static void twelveRods() {
        RodYard x = Yards.of("yard kerf 9 keep 200;kind 10 1;kind 19 1;kind 9 1;order 10 9 0 0;order 10 2 0 0");
        CHECK.same("35: 11 are enough", x.rodsNeeded(0), 11);
        x.addOrder(10, 1, 0, 0);
        CHECK.same("35: 12 are enough", x.rodsNeeded(0), 12);
        x.addOrder(10, 1, 0, 0);
        CHECK.same("35: 12 are not enough", x.rodsNeeded(0), -1);
        CHECK.same("35: 12 are not enough, one unit is missing", x.rodsNeeded(1), -1);
        CHECK.same("35: too short a kind", x.rodsNeeded(2), -1);
        x.buy(0);
        CHECK.same("35: 12 and one that is there", x.rodsNeeded(0), 12);
    }

    /** "(whatever the number of rods is)" */
    private static void moreThanFortyRods() {
        RodYard x = Yards.of("yard kerf 0 keep 1;kind 1 1;kind 10 1;rods 0 9;rods 0 9;rods 0 6");
        for (int r = 24; r < 40; r++) {
            x.buy(0);
        }
        for (int o = 0; o < 5; o++) {
            x.addOrder(10, o == 4 ? 4 : 9, 0, 0);
        }
        Snapshot.refused(CHECK, "50: a 41st rod", Check.ARGUMENT, x, () -> x.buy(1));
        CHECK.same("35: 40 are not enough", x.rodsNeeded(1), -1);
        Snapshot.asked(CHECK, "37: 40 more", 40, x, () -> x.roundsToFill(1));
        x.cancel(0);
        x.cancel(1);
        x.cancel(2);
        CHECK.same("35: 13 are needed", x.rodsNeeded(1), -1);
        CHECK.same("36: 13 are needed", x.cheapestKind(), -1);
        x.addOrder(10, 3, 0, 0);
        x.cancel(4);
        Snapshot.asked(CHECK, "35: 12 more", 12, x, () -> x.rodsNeeded(1));
        Snapshot.asked(CHECK, "36: 12 more", 1, x, x::cheapestKind);
        CHECK.same("37: 12 more", x.roundsToFill(1), 12);
        CHECK.same("37: too short a kind, 40 more", x.roundsToFill(0), -1);
    }

    /** "IndexOutOfBoundsException if there is no such kind" */
    private static void noSuchKind() {
        RodYard x = Yards.of(SMALL);
        CHECK.same("35: the last kind", x.rodsNeeded(1), 0);
        CHECK.same("37: the last kind", x.roundsToFill(1), 0);
        Snapshot.refusedBeyond(CHECK, "35: rodsNeeded", Check.INDEX, x, 2, x::rodsNeeded);
        Snapshot.refusedBeyond(CHECK, "37: roundsToFill", Check.INDEX, x, 2, x::roundsToFill);
        CHECK.fails("35: no kinds", Check.INDEX, () -> Yards.of(EMPTY).rodsNeeded(0));
        CHECK.fails("37: no kinds", Check.INDEX, () -> Yards.of(EMPTY).roundsToFill(0));
        RodYard four = Yards.of(Yards.FULL);
        // Three for 200, and two for the 324 units of 8 to 1 that the shorter rods do not give.
        CHECK.same("35: the fourth of four", four.rodsNeeded(3), 5);
        CHECK.fails("35: the fifth of four", Check.INDEX, () -> four.rodsNeeded(4));
        CHECK.fails("37: the fifth of four", Check.INDEX, () -> four.roundsToFill(4));
    }

    // ---- promise 36

    /** "rodsNeeded, times LENGTH, times PRICE is least"; "Returns its number, of several the smallest one" */
    private static void cheapestOfSeveral() {
        String head = "yard kerf 0 keep 1";
        String order = ";order 10 4 0 0";
        CHECK.same("36: nothing is needed", Yards.of(head + ";kind 200 99;kind 1 1").cheapestKind(), 0);
        // 4 * 10 * 5 = 200, 2 * 20 * 5 = 200, 1 * 40 * 5 = 200
        CHECK.same("36: all are alike", Yards.of(head + ";kind 10 5;kind 20 5;kind 40 5" + order).cheapestKind(), 0);
        // 2 * 21 * 5 = 210, 4 * 11 * 5 = 220, 1 * 41 * 5 = 205
        CHECK.same("36: the last is least", Yards.of(head + ";kind 21 5;kind 11 5;kind 41 5" + order).cheapestKind(),
                2);
        // 1 * 51 * 4 = 204, 1 * 100 * 2 = 200, 2 * 25 * 4 = 200, 4 * 10 * 5 = 200
        CHECK.same("36: of three the smallest", Yards.of(head + ";kind 51 4;kind 100 2;kind 25 4;"
                + "kind 10 5" + order).cheapestKind(), 1);
        // A rod of 99 * 200 is cheaper than two of 199 * 50.
        CHECK.same("36: great costs", Yards.of(head + ";kind 199 99;kind 200 98;order 100 2 0 0").cheapestKind(), 1);
    }

    /** "NONE if rodsNeeded is NONE for all" */
    private static void cheapestNone() {
        CHECK.same("36: no kinds", Yards.of(EMPTY).cheapestKind(), -1);
        CHECK.same("36: no kinds, and orders", Yards.of(EMPTY + ";order 1 1 1 1").cheapestKind(), -1);
        RodYard x = Yards.of("yard kerf 0 keep 1;kind 10 1;kind 11 99;order 12 1 0 0");
        CHECK.same("36: all are too short", x.cheapestKind(), -1);
        x.cancel(0);
        x.addOrder(11, 9, 0, 0);
        x.addOrder(11, 3, 0, 0);
        CHECK.same("36: 12 of the last are enough", x.cheapestKind(), 1);
        x.addOrder(11, 1, 0, 0);
        CHECK.same("36: 12 of the last are not enough", x.cheapestKind(), -1);
    }

    // ---- promise 37

    /** "Returns the number of rounds that end": 0 if the fill of this round is enough. */
    private static void roundsThatEnd() {
        RodYard x = Yards.of("yard kerf 0 keep 1;kind 10 1;kind 30 1;rods 0 1");
        CHECK.same("37: no orders", x.roundsToFill(0), 0);
        x.addOrder(10, 1, 0, 0);
        CHECK.same("37: the rod that is there is enough", x.roundsToFill(0), 0);
        x.addOrder(10, 1, 0, 0);
        CHECK.same("37: one rod more", x.roundsToFill(0), 1);
        x.addOrder(10, 3, 0, 0);
        CHECK.same("37: four rods more", x.roundsToFill(0), 4);
        CHECK.same("37: two longer rods more", x.roundsToFill(1), 2);
    }

    /** "0 to 40; NONE if 40 are not enough" */
    private static void fortyRounds() {
        RodYard x = Yards.of("yard kerf 9 keep 200;kind 10 1");
        for (int o = 0; o < 4; o++) {
            x.addOrder(10, 9, 0, 0);
        }
        x.addOrder(10, 3, 0, 0);
        CHECK.same("37: 39 are enough", x.roundsToFill(0), 39);
        x.addOrder(10, 1, 0, 0);
        CHECK.same("37: 40 are enough", x.roundsToFill(0), 40);
        x.addOrder(10, 1, 0, 0);
        CHECK.same("37: 40 are not enough", x.roundsToFill(0), -1);
        x.buy(0);
        CHECK.same("37: 40 and the rod that is there", x.roundsToFill(0), 40);
        CHECK.same("37: too short a kind", Yards.of("yard kerf 0 keep 1;kind 9 1;order 10 1 0 0").roundsToFill(0), -1);
    }

    /** "in each round, this one first, one fills by policy 1, and, if pieces are lacking still, buys" */
    private static void fillAheadOfBuying() {
        // 40 is filled ahead of buying, so that 100 is all for the pieces of 50.
        RodYard x = Yards.of("yard kerf 0 keep 1;kind 100 1;kind 40 1;rods 1 1;order 50 2 0 9;order 40 1 0 0");
        CHECK.same("37: 40 first", x.roundsToFill(0), 1);
        // By policy 0 10 would go first, and 30 be left for a rod that is bought.
        RodYard y = Yards.of("yard kerf 0 keep 1;kind 10 1;kind 30 1;rods 1 1;order 10 1 0 0;order 30 1 0 9");
        CHECK.same("37: by policy 1", y.roundsToFill(0), 1);
        String orders = ";order 60 1 0 0;order 45 1 0 0;order 40 1 0 0;order 30 1 0 0;order 25 1 0 0";
        CHECK.same("37: not by policy 2", Yards.of("yard kerf 0 keep 1;kind 100 1;rods 0 2" + orders).roundsToFill(0),
                0);
    }

    /** "What-if questions change nothing." */
    private static void questionsChangeNothing() {
        RodYard x = Yards.of(SMALL);
        x.cutPiece(0, 40);
        x.endRound();
        x.cutPiece(1, 41);
        x.writeOrder(0);
        for (int policy = 0; policy < 4; policy++) {
            int p = policy;
            Snapshot.asked(CHECK, "31: piecesIf", 4, x, () -> x.piecesIf(p));
            Snapshot.asked(CHECK, "33: lackingIf", 0, x, () -> x.lackingIf(p, 1));
            String ahead = Snapshot.of(x);
            x.lossIf(policy);
            CHECK.sameText("32: lossIf", Snapshot.of(x), ahead);
        }
        Snapshot.asked(CHECK, "35: rodsNeeded", 0, x, () -> x.rodsNeeded(0));
        Snapshot.asked(CHECK, "37: roundsToFill", 0, x, () -> x.roundsToFill(0));
        Snapshot.asked(CHECK, "36: cheapestKind", 0, x, x::cheapestKind);
        x.addOrder(41, 9, 0, 0);
        Snapshot.asked(CHECK, "35: rodsNeeded", 4, x, () -> x.rodsNeeded(0));
        Snapshot.asked(CHECK, "37: roundsToFill", 4, x, () -> x.roundsToFill(0));
        String ahead = Snapshot.of(x);
        x.bestPolicy();
        x.bestLeft(1);
        x.bestPieces(1);
        CHECK.sameText("34: bestPolicy, bestLeft and bestPieces", Snapshot.of(x), ahead);
    }
}
