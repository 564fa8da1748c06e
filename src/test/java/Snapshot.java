/** All that the face tells of a yard, as one text: a refused call must leave it as it was. */
final class Snapshot {
    private Snapshot() {
    }

    /** A call that is refused, and changes nothing at all. */
    static void refused(Check check, String what, Class<?> due, RodYard x, Check.Call call) {
        String ahead = of(x);
        check.fails(what, due, call);
        check.sameText(what + " is refused, and", of(x), ahead);
    }

    /** A call with one number. */
    interface Numbered {
        long call(int number);
    }

    /** A call is refused with each number below 0, and with count and all above: 0 to count - 1 are taken. */
    static void refusedBeyond(Check check, String what, Class<?> due, RodYard x, int count, Numbered numbered) {
        for (int number : new int[] {-1, Integer.MIN_VALUE, Integer.MAX_VALUE, count, count + 1}) {
            refused(check, what + " of " + number, due, x, () -> numbered.call(number));
        }
    }

    /** A question that is answered, and changes nothing at all. */
    static void asked(Check check, String what, long due, RodYard x, Check.Call call) {
        String ahead = of(x);
        check.same(what, call.answer(), due);
        check.sameText(what + " is asked, and", of(x), ahead);
    }

    static String of(RodYard x) {
        return "input " + x.buffered() + ' ' + x.parseError() + ' ' + x.errorPosition() + ' ' + x.errorLine()
                + "\n" + ofYard(x);
    }

    /** Without the input buffer and the parse error, which load may change although it throws. */
    static String ofYard(RodYard x) {
        StringBuilder out = new StringBuilder("text \"").append(written(x)).append("\"\n");
        if (!hasYard(x)) {
            return out.append("no yard").toString();
        }
        out.append("undoable ").append(x.undoable()).append(", round ").append(x.round()).append(", settings ")
                .append(x.setting(0)).append(' ').append(x.setting(1)).append('\n');
        putPlan(out, x);
        putRodsAndOrders(out, x);
        putStore(out, x);
        for (int k = 0; k < x.cuts(); k++) {
            out.append("cut");
            for (int what = 0; what < 4; what++) {
                out.append(' ').append(x.cut(k, what));
            }
        }
        out.append("\naccounts");
        for (int what = 0; what < 8; what++) {
            out.append(' ').append(x.account(what));
        }
        return out.toString();
    }

    /** The answers of all questions but texts; each is told by its own name. */
    static String questions(RodYard x) {
        StringBuilder out = new StringBuilder();
        out.append("longest ").append(x.longest()).append(", total ").append(x.total()).append(", worth ")
                .append(x.worth()).append(", firstDue ").append(x.firstDue()).append(", overdue ").append(x.overdue())
                .append(", meanLoss ").append(x.meanLoss()).append(", shareUsed ").append(x.shareUsed())
                .append(", wantedPatterns ").append(x.wantedPatterns()).append('\n');
        putAnswers(out, "count", 8, x::count);
        putAnswers(out, "patternRod", x.count(3), x::patternRod);
        putAnswers(out, "bestLeft", x.count(1), x::bestLeft);
        putAnswers(out, "bestPieces", x.count(1), x::bestPieces);
        for (int length : new int[] {1, 25, 40, 60, 99, 100, 200}) {
            out.append("wanted ").append(x.wanted(length)).append(' ');
            putAnswers(out, "rodFor", 3, policy -> x.rodFor(length, policy));
        }
        putAnswers(out, "piecesIf", 4, x::piecesIf);
        putAnswers(out, "lossIf", 4, x::lossIf);
        for (int policy = 0; policy < 4; policy++) {
            int p = policy;
            putAnswers(out, "lackingIf", x.count(2), o -> x.lackingIf(p, o));
        }
        out.append("bestPolicy ").append(x.bestPolicy()).append(", cheapestKind ").append(x.cheapestKind())
                .append('\n');
        putAnswers(out, "rodsNeeded", x.count(0), x::rodsNeeded);
        putAnswers(out, "roundsToFill", x.count(0), x::roundsToFill);
        return out.toString();
    }

    private static void putAnswers(StringBuilder out, String name, int count, Numbered question) {
        out.append(name);
        for (int number = 0; number < count; number++) {
            out.append(' ').append(question.call(number));
        }
        out.append('\n');
    }

    private static boolean hasYard(RodYard x) {
        try {
            return x.round() >= 0;
        } catch (IllegalStateException e) {
            return false;
        }
    }

    private static String written(RodYard x) {
        StringBuilder out = new StringBuilder();
        for (int i = 0; i < 1000; i++) {
            try {
                out.append((char) x.textByte(i));
            } catch (IndexOutOfBoundsException e) {
                return out.toString();
            }
        }
        return out.toString();
    }

    private static void putPlan(StringBuilder out, RodYard x) {
        for (int k = 0; k < x.count(0); k++) {
            out.append("kind ").append(x.kind(k, false)).append(' ').append(x.kind(k, true)).append('\n');
        }
        for (int p = 0; p < x.count(3); p++) {
            out.append("pattern");
            for (int k = 0; k < x.patternSize(p); k++) {
                out.append(' ').append(x.patternLength(p, k));
            }
            out.append('\n');
        }
    }

    private static void putRodsAndOrders(StringBuilder out, RodYard x) {
        for (int r = 0; r < x.count(1); r++) {
            out.append("rod");
            for (int what = 0; what < 5; what++) {
                out.append(' ').append(x.rod(r, what));
            }
            out.append('\n');
        }
        for (int o = 0; o < x.count(2); o++) {
            out.append("order");
            for (int what = 0; what < 8; what++) {
                out.append(' ').append(x.order(o, what));
            }
            out.append('\n');
        }
    }

    private static void putStore(StringBuilder out, RodYard x) {
        int pieces = x.count(7);
        out.append("store ").append(pieces);
        for (int length = 1; length <= 200 && pieces > 0; length++) {
            int stored = x.stored(length);
            if (stored != 0) {
                out.append(' ').append(length).append('x').append(stored);
            }
            pieces -= stored;
        }
        out.append('\n');
    }
}
