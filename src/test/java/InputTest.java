/** Promises 1, 2, 3 and 7: a new object, append, load, buffered. */
public final class InputTest {
    private static final Check CHECK = new Check();

    public static void main(String[] args) {
        newObject();
        appendedBytes();
        fullBuffer();
        loadBounds();
        loadReplacesTheYard();
        oneTextAfterAnother();
        failedLoadKeepsTheYard();
        CHECK.end();
    }

    private static void newObject() {
        RodYard x = new RodYard();
        CHECK.same("NONE", RodYard.NONE, -1);
        CHECK.same("new: buffered", x.buffered(), 0);
        CHECK.same("new: parseError", x.parseError(), 0);
        CHECK.same("new: errorPosition", x.errorPosition(), -1);
        CHECK.same("new: errorLine", x.errorLine(), -1);
        CHECK.same("new: cuts", x.cuts(), 0);
        CHECK.same("new: undoable", x.undoable(), 0);
        CHECK.fails("new: textByte(0)", Check.INDEX, () -> x.textByte(0));
        noYard(CHECK, "new", x);
    }

    /** IllegalStateException comes first wherever it is listed first, whatever the arguments are. */
    static void noYard(Check c, String when, RodYard x) {
        c.fails(when + ": count", Check.STATE, () -> x.count(-1));
        c.fails(when + ": kind", Check.STATE, () -> x.kind(-1, true));
        c.fails(when + ": rod", Check.STATE, () -> x.rod(-1, -1));
        c.fails(when + ": order", Check.STATE, () -> x.order(-1, -1));
        c.fails(when + ": patternSize", Check.STATE, () -> x.patternSize(0));
        c.fails(when + ": patternLength", Check.STATE, () -> x.patternLength(0, 0));
        c.fails(when + ": setting", Check.STATE, () -> x.setting(2));
        c.fails(when + ": round", Check.STATE, x::round);
        c.fails(when + ": wanted", Check.STATE, () -> x.wanted(0));
        c.fails(when + ": stored", Check.STATE, () -> x.stored(201));
        c.fails(when + ": left", Check.STATE, () -> x.left(0, 0));
        c.fails(when + ": rodFor", Check.STATE, () -> x.rodFor(0, 9));
        c.fails(when + ": longest", Check.STATE, x::longest);
        c.fails(when + ": total", Check.STATE, x::total);
        c.fails(when + ": worth", Check.STATE, x::worth);
        c.fails(when + ": firstDue", Check.STATE, x::firstDue);
        c.fails(when + ": overdue", Check.STATE, x::overdue);
        c.fails(when + ": fits", Check.STATE, () -> x.fits(0, 0) ? 1 : 0);
        c.fails(when + ": patternLeft", Check.STATE, () -> x.patternLeft(0, 0));
        c.fails(when + ": patternRod", Check.STATE, () -> x.patternRod(0));
        c.fails(when + ": wantedPatterns", Check.STATE, x::wantedPatterns);
        c.fails(when + ": bestLeft", Check.STATE, () -> x.bestLeft(0));
        c.fails(when + ": bestPieces", Check.STATE, () -> x.bestPieces(0));
        c.fails(when + ": piecesIf", Check.STATE, () -> x.piecesIf(4));
        c.fails(when + ": lossIf", Check.STATE, () -> x.lossIf(-1));
        c.fails(when + ": lackingIf", Check.STATE, () -> x.lackingIf(4, 0));
        c.fails(when + ": bestPolicy", Check.STATE, x::bestPolicy);
        c.fails(when + ": rodsNeeded", Check.STATE, () -> x.rodsNeeded(0));
        c.fails(when + ": cheapestKind", Check.STATE, x::cheapestKind);
        c.fails(when + ": roundsToFill", Check.STATE, () -> x.roundsToFill(0));
        c.fails(when + ": account", Check.STATE, () -> x.account(8));
        c.fails(when + ": meanLoss", Check.STATE, () -> (long) x.meanLoss());
        c.fails(when + ": shareUsed", Check.STATE, () -> (long) x.shareUsed());
        c.fails(when + ": cut", Check.STATE, () -> x.cut(0, 9));
        c.fails(when + ": writeRods", Check.STATE, x::writeRods);
        c.fails(when + ": writeOrder", Check.STATE, () -> x.writeOrder(0));
        c.fails(when + ": cutPiece", Check.STATE, () -> x.cutPiece(0, 0));
        c.fails(when + ": cutPattern", Check.STATE, () -> x.cutPattern(0, 0));
        c.fails(when + ": fill", Check.STATE, () -> x.fill(7));
        c.fails(when + ": endRound", Check.STATE, x::endRound);
        c.fails(when + ": buy", Check.STATE, () -> x.buy(0));
        c.fails(when + ": addOrder", Check.STATE, () -> x.addOrder(0, 0, -1, -1));
        c.fails(when + ": cancel", Check.STATE, () -> x.cancel(0));
        c.fails(when + ": scrap", Check.STATE, () -> x.scrap(0));
        c.fails(when + ": setSetting", Check.STATE, () -> x.setSetting(9, 9));
        c.fails(when + ": undo", Check.STATE, x::undo);
        c.fails(when + ": save", Check.STATE, () -> x.save(2));
        c.fails(when + ": restore(0)", Check.STATE, () -> x.restore(0));
        c.fails(when + ": restore(2)", Check.INDEX, () -> x.restore(2));
        c.fails(when + ": restore(-1)", Check.INDEX, () -> x.restore(-1));
    }

    private static void appendedBytes() {
        RodYard x = new RodYard();
        // "yard" "kerf" " 0 k" "eep " "1   ": the most significant byte comes first.
        CHECK.same("append", x.append(0x79617264, 0x6b657266, 0x2030206b, 0x65657020, 0x31202020), 20);
        CHECK.same("buffered behind append", x.buffered(), 20);
        CHECK.fails("yardkerf is one word", Check.ARGUMENT, () -> x.load(17));
        CHECK.same("yardkerf: code", x.parseError(), 1);
        CHECK.same("yardkerf: position", x.errorPosition(), 0);
        CHECK.same("buffered behind a failed load", x.buffered(), 0);
        CHECK.same("append", x.append(0x79617264, 0x206b6572, 0x66203320, 0x6b656570, 0x2031353b), 20);
        CHECK.same("load 19 of 20 bytes", x.load(19), 0);
        CHECK.same("buffered behind load", x.buffered(), 0);
        CHECK.same("KERF", x.setting(0), 3);
        CHECK.same("KEEP", x.setting(1), 15);
        // Bytes above 127 start no token.
        Yards.put(x, "yard \u00ffkerf 1 keep 2");
        CHECK.fails("byte 255", Check.ARGUMENT, () -> x.load(18));
        CHECK.same("byte 255: code", x.parseError(), 1);
        CHECK.same("byte 255: position", x.errorPosition(), 5);
    }

    private static void fullBuffer() {
        RodYard x = new RodYard();
        for (int i = 1; i <= 35; i++) {
            CHECK.same("append number " + i, x.append(0x20202020, 0x20202020, 0x20202020, 0x20202020, 0x20202020),
                    20 * i);
        }
        CHECK.same("append to the full buffer", x.append(0x3b3b3b3b, 0, 0, 0, 0), -1);
        CHECK.same("buffered, full", x.buffered(), 700);
        CHECK.fails("load(701)", Check.INDEX, () -> x.load(701));
        CHECK.fails("700 blanks", Check.ARGUMENT, () -> x.load(700));
        CHECK.same("700 blanks: code", x.parseError(), 1);
        CHECK.same("700 blanks: position", x.errorPosition(), 700);
        CHECK.same("700 blanks: line", x.errorLine(), 0);
        CHECK.same("emptied", x.buffered(), 0);
        StringBuilder text = new StringBuilder("yard kerf 9 keep 200");
        while (text.length() < 680) {
            text.append("                    ");
        }
        text.append(";pattern 1 2 3 4 5 6");
        Yards.put(x, text.toString());
        CHECK.same("700 bytes with a yard", x.load(700), 0);
        CHECK.same("its last length", x.patternLength(0, 5), 6);
    }

    private static void loadBounds() {
        RodYard x = new RodYard();
        Yards.put(x, "yard kerf 0 keep 1 ;");
        CHECK.fails("load(-1)", Check.INDEX, () -> x.load(-1));
        CHECK.fails("load(21)", Check.INDEX, () -> x.load(21));
        CHECK.fails("load(greatest)", Check.INDEX, () -> x.load(Integer.MAX_VALUE));
        CHECK.same("the buffer stays", x.buffered(), 20);
        CHECK.same("no parse error yet", x.parseError(), 0);
        CHECK.fails("load(20)", Check.ARGUMENT, () -> x.load(20));
        CHECK.same("code", x.parseError(), 1);
        Yards.put(x, "yard kerf 0 keep 1 ;");
        CHECK.fails("load(21) again", Check.INDEX, () -> x.load(21));
        CHECK.same("the code stays", x.parseError(), 1);
        CHECK.same("the position stays", x.errorPosition(), 20);
        CHECK.same("the line stays", x.errorLine(), 1);
        CHECK.same("load(18)", x.load(18), 0);
        CHECK.same("code behind success", x.parseError(), 0);
        CHECK.same("position behind success", x.errorPosition(), -1);
        CHECK.same("line behind success", x.errorLine(), -1);
        CHECK.fails("load(1) of nothing", Check.INDEX, () -> x.load(1));
        CHECK.same("the code stays 0", x.parseError(), 0);
    }

    private static void loadReplacesTheYard() {
        RodYard x = Yards.of("yard kerf 2 keep 20;kind 100 3;rods 0 2;order 40 3 10 1;pattern 40 40");
        x.cutPiece(0, 40);
        x.cutPiece(0, 30);
        x.endRound();
        x.save(0);
        x.save(1);
        x.buy(0);
        String text = "yard kerf 1 keep 5;kind 50 2;rods 0 1;order 10 1 5 0";
        Yards.put(x, text);
        CHECK.same("second load", x.load(text.length()), 1);
        CHECK.same("second load: round", x.round(), 0);
        for (int what = 0; what < 8; what++) {
            CHECK.same("second load: account " + what, x.account(what), 0);
        }
        CHECK.same("second load: store", x.count(7), 0);
        CHECK.same("second load: stored(30)", x.stored(30), 0);
        CHECK.same("second load: cuts", x.cuts(), 0);
        CHECK.same("second load: undoable", x.undoable(), 0);
        CHECK.fails("second load: undo", Check.STATE, x::undo);
        CHECK.fails("second load: restore(0)", Check.STATE, () -> x.restore(0));
        CHECK.fails("second load: restore(1)", Check.STATE, () -> x.restore(1));
        CHECK.same("second load: kinds", x.count(0), 1);
        CHECK.same("second load: rods", x.count(1), 1);
        CHECK.same("second load: orders", x.count(2), 1);
        CHECK.same("second load: patterns", x.count(3), 0);
        CHECK.same("second load: kind", x.kind(0, false), 50);
        CHECK.same("second load: pieces of rod 0", x.rod(0, 3), 0);
        CHECK.same("second load: rod 0 cut", x.rod(0, 4), 0);
        CHECK.same("second load: lacking", x.order(0, 4), 1);
        CHECK.same("second load: in time", x.order(0, 5), 0);
    }

    /** The same object reads one text after another. */
    private static void oneTextAfterAnother() {
        RodYard x = Yards.of("yard kerf 0 keep 1;kind 5 5;rods 0 3;order 1 1 1 1;pattern 1 2 3 4 5 6;pattern 7 8");
        String text = "yard kerf 0 keep 1;kind 5 5;rods 0 2;order 2 2 2 2;pattern 9 8;pattern 7 6 5";
        Yards.put(x, text);
        CHECK.same("another text", x.load(text.length()), 2);
        CHECK.same("orders of another text", x.count(2), 1);
        CHECK.same("pattern 0 of another text", x.patternSize(0), 2);
        CHECK.same("pattern 1 of another text", x.patternSize(1), 3);
        CHECK.same("its last length", x.patternLength(1, 2), 5);
        CHECK.fails("no third length", Check.INDEX, () -> x.patternLength(0, 2));
        // What stands behind the first n bytes is not read.
        Yards.put(x, "yardx");
        CHECK.fails("yard alone", Check.ARGUMENT, () -> x.load(4));
        CHECK.same("yard alone: position", x.errorPosition(), 4);
        Yards.put(x, "yard kerf 0 keep 15");
        CHECK.same("keep 1 alone", x.load(18), 0);
        CHECK.same("KEEP", x.setting(1), 1);
        CHECK.fails("no patterns any more", Check.INDEX, () -> x.patternLength(0, 0));
    }

    private static void failedLoadKeepsTheYard() {
        RodYard x = Yards.of("yard kerf 2 keep 20;kind 100 3;rods 0 2;order 40 3 10 1;pattern 40 40");
        x.cutPiece(0, 40);
        x.save(1);
        String text = "yard kerf 5 keep 9;kind 9 9;rods 0 9;order 1 1 1 1;pattern 1 2 3;row";
        Yards.put(x, text);
        CHECK.fails("failed load", Check.ARGUMENT, () -> x.load(text.length()));
        CHECK.same("failed load: buffered", x.buffered(), 0);
        CHECK.same("failed load: KERF", x.setting(0), 2);
        CHECK.same("failed load: kind", x.kind(0, false), 100);
        CHECK.same("failed load: rods", x.count(1), 2);
        CHECK.same("failed load: rod 0", x.rod(0, 1), 58);
        CHECK.same("failed load: order", x.order(0, 0), 40);
        CHECK.same("failed load: pattern", x.patternSize(0), 2);
        CHECK.same("failed load: cuts", x.cuts(), 1);
        CHECK.same("failed load: undoable", x.undoable(), 1);
        CHECK.same("failed load: restore", x.restore(1), 0);
    }
}
