/** Promises 31 to 37: what-if questions. */
public final class WhatIfTest {
    private static final Check CHECK = new Check();

    public static void main(String[] args) {
        policies();
        policyThree();
        lossesOfThisRound();
        lackingIf();
        bestPolicy();
        bestFitOrWorstFit();
        rodsNeeded();
        cheapestKind();
        roundsToFill();
        moreThanFortyRods();
        wrongArguments();
        nothingChanges();
        CHECK.end();
    }

    private static void ifFilled(String what, RodYard x, int policy, int pieces, int loss, int... lacking) {
        String name = what + ", policy " + policy + ": ";
        CHECK.same(name + "piecesIf", x.piecesIf(policy), pieces);
        CHECK.same(name + "lossIf", x.lossIf(policy), loss);
        for (int o = 0; o < lacking.length; o++) {
            CHECK.same(name + "lackingIf " + o, x.lackingIf(policy, o), lacking[o]);
        }
    }

    private static void policies() {
        // Policy 0 serves order 1 first: 30 of rod 0, and then 50 of rod 1.
        RodYard x = Yards.of("yard kerf 1 keep 10;kind 60 2;kind 55 3;rods 0 1;rods 1 1;order 50 2 1 5;order 30 1 1 3");
        ifFilled("30 or 50 twice", x, 0, 2, 2 + 3 + 3 * 4, 1, 0);
        // Policy 1: 50 of 55, which leaves 4, and 50 of 60, which leaves 9.
        ifFilled("30 or 50 twice", x, 1, 2, 3 + 2 + 3 * 4 + 2 * 9, 0, 1);
        ifFilled("30 or 50 twice", x, 2, 2, 3 + 2 + 3 * 4 + 2 * 9, 0, 1);
        // The same DUE: the smaller number goes first.
        RodYard y = Yards.of("yard kerf 0 keep 1;kind 10 1;rods 0 1;order 3 1 1 7;order 8 1 1 7");
        ifFilled("3 or 8", y, 0, 1, 0, 0, 1);
        ifFilled("3 or 8", y, 1, 1, 0, 1, 0);
        // What cannot be cut from any rod is passed over, even if it is due first.
        RodYard z = Yards.of("yard kerf 0 keep 1;kind 10 1;rods 0 2;order 11 2 1 0;order 4 5 1 9;order 6 1 1 9");
        ifFilled("11 does not go", z, 0, 4, 0, 2, 1, 1);
        ifFilled("11 does not go", z, 1, 4, 0, 2, 2, 0);
        // 6 leaves 4 of rod 0; policy 2 cuts 4 of rod 1 then.
        ifFilled("11 does not go", z, 2, 4, 0, 2, 2, 0);
        // Policies 1 and 2 differ by the rod: 40 of 40 or of 100.
        RodYard w = Yards.of("yard kerf 0 keep 50;kind 100 1;kind 40 1;rods 0 1;rods 1 1;order 40 1 1 0;order 100 1 1 0"
                + ";order 35 1 1 0");
        ifFilled("best fit", w, 1, 2, 0, 0, 0, 1);
        ifFilled("worst fit", w, 2, 2, 0, 0, 0, 1);
        w.cancel(1);
        ifFilled("best fit", w, 1, 2, 0, 0, 0, 0);
        ifFilled("worst fit", w, 2, 2, 25, 0, 0, 0);
        ifFilled("first fit", w, 0, 2, 25, 0, 0, 0);
        RodYard none = Yards.of("yard kerf 0 keep 1");
        for (int policy = 0; policy < 4; policy++) {
            ifFilled("no rods and orders", none, policy, 0, 0);
        }
    }

    private static void policyThree() {
        // Rod 0: 50 20 20 leaves 10; a second time would need four of 20.
        // Rod 1: 45 20 leaves 35, which is kept, so that the other 50 does not go.
        RodYard x = Yards.of("yard kerf 0 keep 30;kind 100 1;rods 0 2;order 50 2 1 9;order 20 3 1 9;order 45 1 1 9;"
                + "pattern 70;pattern 50 20 20;pattern 45 20");
        ifFilled("patterns first", x, 3, 5, 10, 1, 0, 0);
        x.setSetting(0, 5);
        // The last kerf of rod 0 has nothing; 25 are left of rod 1, and scrapped.
        ifFilled("patterns with kerf", x, 3, 5, 4 * 5 + 25, 1, 0, 0);
        // Policy 1: 50 and 50 of one rod, 45 and 20 twice of the other.
        x.setSetting(0, 0);
        ifFilled("pieces first", x, 1, 5, 15, 0, 1, 0);
        RodYard y = Yards.of("yard kerf 0 keep 30;kind 100 1;kind 90 2;rods 0 1;rods 1 2;order 30 9 1 9;pattern 30 30 30;"
                + "pattern 30");
        // Of the rods with the least length first: 1, then 2, then 0.
        y.fill(3);
        CHECK.same("first cut", y.cut(0, 1), 1);
        CHECK.same("fourth cut", y.cut(3, 1), 2);
        CHECK.same("seventh cut", y.cut(6, 1), 0);
        CHECK.same("all cut", y.count(6), 0);
    }

    private static void lossesOfThisRound() {
        RodYard x = Yards.of("yard kerf 2 keep 20;kind 100 3;rods 0 2;order 40 1 1 9");
        x.cutPiece(0, 85); // leaves 13 of a rod that is cut in this round
        CHECK.same("account(3)", x.account(3), 6);
        ifFilled("rods that were cut ahead", x, 0, 1, 6 + 13 * 3, 0);
        x.endRound();
        // Neither the loss so far nor that by rods that were not cut in this round.
        x.setSetting(1, 200);
        x.addOrder(1, 1, 1, 1);
        x.cancel(1);
        ifFilled("this loss alone", x, 0, 1, 6 + 58 * 3, 0, 0);
        x.cancel(0);
        ifFilled("no loss", x, 0, 0, 0, 0, 0);
    }

    private static void lackingIf() {
        RodYard x = Yards.of("yard kerf 0 keep 1;kind 10 1;rods 0 1;order 5 2 1 9;order 5 2 1 3;order 9 4 1 1");
        CHECK.same("lackingIf(0, 2): 9 is due first", x.lackingIf(0, 2), 3);
        CHECK.same("lackingIf(0, 1)", x.lackingIf(0, 1), 2);
        x.cancel(2);
        CHECK.same("lackingIf of a cancelled order", x.lackingIf(0, 2), 0);
        CHECK.same("lackingIf(0, 1): the pieces go to the least DUE", x.lackingIf(0, 1), 0);
        CHECK.same("lackingIf(0, 0)", x.lackingIf(0, 0), 2);
        CHECK.fails("lackingIf(4, 3): the order comes first", Check.INDEX, () -> x.lackingIf(4, 3));
        CHECK.fails("lackingIf(0, -1)", Check.INDEX, () -> x.lackingIf(0, -1));
        CHECK.fails("lackingIf(4, 0)", Check.ARGUMENT, () -> x.lackingIf(4, 0));
        CHECK.fails("lackingIf(-1, 0)", Check.ARGUMENT, () -> x.lackingIf(-1, 0));
    }

    private static void bestPolicy() {
        CHECK.same("all alike", Yards.of("yard kerf 0 keep 1").bestPolicy(), 0);
        // Most pieces: policy 0 cuts 3 three times, the others 8.
        CHECK.same("most pieces", Yards.of("yard kerf 0 keep 1;kind 9 1;rods 0 1;order 3 3 1 1;order 8 1 1 5")
                .bestPolicy(), 0);
        CHECK.same("most pieces", Yards.of("yard kerf 0 keep 1;kind 9 1;rods 0 1;order 8 1 1 1;order 3 3 1 5;"
                + "pattern 3 3 3").bestPolicy(), 3);
        // The same pieces: the least loss. Policy 0 and 2 cut 40 from the rod with 100, and lose.
        CHECK.same("least loss", Yards.of("yard kerf 0 keep 70;kind 100 1;kind 40 1;rods 0 1;rods 1 1;order 40 1 1 0")
                .bestPolicy(), 1);
        CHECK.same("least loss", Yards.of("yard kerf 1 keep 60;kind 50 1;kind 100 1;rods 0 1;rods 1 1;order 30 1 1 0")
                .bestPolicy(), 2);
    }

    /** 60 and 40, 45 and 30 and 25 by policy 1; by policy 2 45 and 40, 60 and 30, and no 25. */
    private static void bestFitOrWorstFit() {
        String orders = ";order 60 1 1 0;order 45 1 1 0;order 40 1 1 0;order 30 1 1 0;order 25 1 1 0";
        RodYard x = Yards.of("yard kerf 0 keep 1;kind 100 1;rods 0 2" + orders);
        ifFilled("best fit", x, 1, 5, 0, 0, 0, 0, 0, 0);
        ifFilled("worst fit", x, 2, 4, 0, 0, 0, 0, 0, 1);
        ifFilled("best fit behind patterns", x, 3, 5, 0, 0, 0, 0, 0, 0);
        CHECK.same("roundsToFill by best fit", x.roundsToFill(0), 0);
        CHECK.same("rodsNeeded by best fit", Yards.of("yard kerf 0 keep 1;kind 100 1" + orders).rodsNeeded(0), 2);
        RodYard y = Yards.of("yard kerf 0 keep 1;kind 100 1;rods 0 2" + orders + ";pattern 60 25");
        // 60 25, then 45 and 40 of rod 1, then 30 goes into neither 15.
        ifFilled("a pattern ahead", y, 3, 4, 0, 0, 0, 0, 1, 0);
        // The same numbers of rods by policy 0 as by policy 1, and the same loss.
        CHECK.same("a pattern ahead is worse", y.bestPolicy(), 0);
    }

    private static void rodsNeeded() {
        RodYard x = Yards.of("yard kerf 0 keep 1;kind 100 1;kind 10 1;order 10 9 1 0;order 10 3 1 0");
        CHECK.same("12 pieces of 10 from 100", x.rodsNeeded(0), 2);
        CHECK.same("12 pieces of 10 from 10", x.rodsNeeded(1), 12);
        x.addOrder(10, 1, 0, 0);
        CHECK.same("13 pieces of 10 from 10", x.rodsNeeded(1), -1);
        x.buy(1);
        CHECK.same("one rod is there already", x.rodsNeeded(1), 12);
        x.buy(0);
        CHECK.same("two more are enough", x.rodsNeeded(1), 2);
        CHECK.same("one more of 100", x.rodsNeeded(0), 1);
        x.buy(0);
        CHECK.same("none is needed", x.rodsNeeded(1), 0);
        x.addOrder(11, 1, 0, 0);
        CHECK.same("11 from 10", x.rodsNeeded(1), 0);
        x.addOrder(101, 1, 0, 0);
        CHECK.same("101 from 100", x.rodsNeeded(0), -1);
        CHECK.same("no orders", Yards.of("yard kerf 0 keep 1;kind 9 9").rodsNeeded(0), 0);
        // It is policy 1: 60 and 40 go well together, by the greatest length first.
        CHECK.same("policy 1", Yards.of("yard kerf 0 keep 1;kind 100 1;order 40 2 1 0;order 60 2 1 9").rodsNeeded(0), 2);
        CHECK.fails("rodsNeeded(2)", Check.INDEX, () -> x.rodsNeeded(2));
        CHECK.fails("rodsNeeded(-1)", Check.INDEX, () -> x.rodsNeeded(-1));
    }

    private static void cheapestKind() {
        CHECK.same("no kinds", Yards.of("yard kerf 0 keep 1;order 5 1 1 1").cheapestKind(), -1);
        CHECK.same("nothing is needed", Yards.of("yard kerf 0 keep 1;kind 5 9;kind 4 1").cheapestKind(), 0);
        CHECK.same("no kind is enough", Yards.of("yard kerf 0 keep 1;kind 5 9;kind 4 1;order 6 1 1 1").cheapestKind(),
                -1);
        CHECK.same("only the second is enough",
                Yards.of("yard kerf 0 keep 1;kind 5 1;kind 60 99;order 6 1 1 1").cheapestKind(), 1);
        // 2 * 50 * 3 = 300, 1 * 100 * 3 = 300, 4 * 25 * 2 = 200, 2 * 51 * 2 = 204
        CHECK.same("least cost", Yards.of("yard kerf 0 keep 1;kind 50 3;kind 100 3;kind 25 2;kind 51 2;order 25 4 1 1")
                .cheapestKind(), 2);
        CHECK.same("of several the smallest number",
                Yards.of("yard kerf 0 keep 1;kind 24 1;kind 100 3;kind 50 3;order 25 4 1 1").cheapestKind(), 1);
    }

    private static void roundsToFill() {
        RodYard x = Yards.of("yard kerf 0 keep 1;kind 100 1;kind 10 1;kind 11 1;order 10 9 1 0");
        CHECK.same("nine of 10", x.roundsToFill(1), 9);
        CHECK.same("one of 100", x.roundsToFill(0), 1);
        for (int i = 0; i < 3; i++) {
            x.addOrder(10, 9, 0, 0);
        }
        CHECK.same("36 of 10", x.roundsToFill(1), 36);
        x.addOrder(10, 4, 0, 0);
        CHECK.same("40 of 10", x.roundsToFill(1), 40);
        x.addOrder(10, 1, 0, 0);
        CHECK.same("41 of 10", x.roundsToFill(1), -1);
        CHECK.same("41 of 100", x.roundsToFill(0), 5);
        x.buy(1);
        CHECK.same("41 of 10, and one rod is there", x.roundsToFill(1), 40);
        // Two rods of 30: 20 and 10 of each.
        CHECK.same("20 and 10 of each", Yards.of("yard kerf 0 keep 1;kind 30 1;order 20 2 1 1;order 10 2 1 1")
                .roundsToFill(0), 2);
        // This round: 30 and 15 of 45. Then 30 of a rod that was bought.
        CHECK.same("30 and 15 of 45 first", Yards.of("yard kerf 0 keep 16;kind 30 1;kind 45 1;rods 1 1;order 30 2 1 1;"
                + "order 15 1 1 1").roundsToFill(0), 1);
        RodYard w = Yards.of("yard kerf 0 keep 16;kind 30 1;kind 45 1;rods 1 1;order 16 2 1 1;order 29 1 1 1;"
                + "order 50 1 1 1");
        CHECK.same("50 is never cut", w.roundsToFill(0), -1);
        w.cancel(2);
        w.addOrder(14, 1, 1, 1);
        CHECK.same("29 and 16, then 16 and 14", w.roundsToFill(0), 1);
        CHECK.same("nothing is lacking", Yards.of("yard kerf 0 keep 1;kind 1 1").roundsToFill(0), 0);
        CHECK.fails("roundsToFill(3)", Check.INDEX, () -> x.roundsToFill(3));
        CHECK.fails("roundsToFill(-1)", Check.INDEX, () -> x.roundsToFill(-1));
    }

    private static void moreThanFortyRods() {
        RodYard x = Yards.of("yard kerf 0 keep 1;kind 10 1;kind 100 1;rods 0 9");
        for (int i = 9; i < 40; i++) {
            x.buy(0);
        }
        for (int i = 0; i < 40; i++) {
            x.scrap(i);
        }
        x.addOrder(10, 9, 0, 0);
        x.addOrder(10, 3, 0, 0);
        CHECK.same("rodsNeeded beyond 40 rods", x.rodsNeeded(0), 12);
        CHECK.same("cheapestKind beyond 40 rods", x.cheapestKind(), 0);
        CHECK.same("roundsToFill beyond 40 rods", x.roundsToFill(0), 12);
        x.addOrder(10, 9, 0, 0);
        x.addOrder(10, 9, 0, 0);
        x.addOrder(10, 9, 0, 0);
        x.addOrder(10, 1, 0, 0);
        CHECK.same("roundsToFill with 80 rods", x.roundsToFill(0), 40);
        CHECK.same("rods", x.count(1), 40);
    }

    private static void wrongArguments() {
        RodYard x = Yards.of("yard kerf 0 keep 1;kind 10 1");
        for (int policy : new int[] {-1, 4, Integer.MAX_VALUE, Integer.MIN_VALUE}) {
            CHECK.fails("piecesIf(" + policy + ")", Check.ARGUMENT, () -> x.piecesIf(policy));
            CHECK.fails("lossIf(" + policy + ")", Check.ARGUMENT, () -> x.lossIf(policy));
        }
    }

    private static void nothingChanges() {
        RodYard x = Yards.of("yard kerf 2 keep 20;kind 100 3;kind 60 5;rods 0 2;rods 1 1;order 40 3 10 1;order 25 9 7 0;"
                + "pattern 40 40;pattern 25 25 40");
        for (int policy = 0; policy < 4; policy++) {
            x.piecesIf(policy);
            x.lossIf(policy);
            x.lackingIf(policy, 0);
        }
        x.bestPolicy();
        x.rodsNeeded(0);
        x.cheapestKind();
        x.roundsToFill(0);
        x.bestLeft(0);
        CHECK.same("total", x.total(), 260);
        CHECK.same("lacking", x.count(6), 12);
        CHECK.same("rods", x.count(1), 3);
        CHECK.same("round", x.round(), 0);
        CHECK.same("cuts", x.cuts(), 0);
        CHECK.same("pieces", x.account(5), 0);
        CHECK.same("undoable", x.undoable(), 0);
    }
}
