/** All promises: long runs of calls on a RodYard and on the plain Model, with the same answers. */
public final class ModelTest {
    private static final Check CHECK = new Check();
    private static final int RUNS = 300;
    private static final int CALLS = 120;
    private static final int TEXTS = 20000;
    private static final String[] PIECES = {"yard", "kerf", "keep", "kind", "rods", "order", "pattern", ";", ";", ";",
        " ", " ", "0", "1", "9", "10", "99", "100", "200", "201", "999", "1000", "007", "a", "abcdefgh", "abcdefghi",
        "-", "K", "\u0001", "\u00e9"};

    private final Lcg random;
    private final RodYard yard = new RodYard();
    private final Model model = new Model();
    private String run;

    private ModelTest(int seed) {
        random = new Lcg(seed);
    }

    /** Always the same numbers for the same seed. */
    private static final class Lcg {
        private long state;

        Lcg(long seed) {
            state = seed * 7919 + 17;
        }

        int below(int bound) {
            state = state * 6364136223846793005L + 1442695040888963407L;
            return (int) ((state >>> 33) % bound);
        }
    }

    public static void main(String[] args) {
        for (int seed = 0; seed < RUNS; seed++) {
            new ModelTest(seed).playRun(seed);
        }
        for (int seed = 0; seed < TEXTS; seed++) {
            new ModelTest(seed).playText(seed);
        }
        CHECK.end();
    }

    // ---- runs of calls

    private void playRun(int seed) {
        run = "run " + seed;
        load(goodText());
        for (int i = 0; i < CALLS && CHECK.wrong() == 0; i++) {
            run = "run " + seed + ", call " + i;
            change();
            CHECK.sameText(run + ": state", ChangeTest.all(yard), model.all());
            CHECK.same(run + ": undoable", yard.undoable(), model.undoable());
            if (i % 4 == 0) {
                compareViews();
                comparePatterns();
                compareTrials();
                compareTexts();
            }
        }
    }

    private String goodText() {
        StringBuilder text = new StringBuilder("yard kerf " + random.below(10) + " keep " + (1 + random.below(60)));
        int kinds = random.below(5);
        for (int k = 0; k < kinds; k++) {
            text.append(";kind ").append(20 + 45 * k + random.below(45)).append(' ').append(1 + random.below(9));
        }
        for (int i = random.below(5); kinds > 0 && i > 0; i--) {
            text.append(";rods ").append(random.below(kinds)).append(' ').append(1 + random.below(5));
        }
        for (int i = random.below(7); i > 0; i--) {
            text.append(";order ").append(length()).append(' ').append(1 + random.below(9)).append(' ')
                    .append(random.below(100)).append(' ').append(random.below(6));
        }
        for (int i = random.below(7); i > 0; i--) {
            text.append(";pattern");
            for (int k = random.below(4) * random.below(2) + 1 + random.below(2); k >= 0; k--) {
                text.append(' ').append(length());
            }
        }
        return text.toString();
    }

    /** Few different lengths, so that orders, patterns and the store meet. */
    private int length() {
        int[] usual = {20, 25, 33, 40, 41, 58};
        return random.below(12) == 0 ? 12 + random.below(189) : usual[random.below(usual.length)];
    }

    /** A number of something; now and then none that exists. */
    private int number(int count) {
        return random.below(15) == 0 ? random.below(3) * 50 - 1 : random.below(Math.max(1, count));
    }

    private void load(String text) {
        Yards.put(yard, text);
        due("load of " + text, model.load(text), () -> yard.load(text.length()));
        CHECK.same(run + ": parseError", yard.parseError(), model.parseError);
        CHECK.same(run + ": errorPosition", yard.errorPosition(), model.errorPosition);
        CHECK.same(run + ": errorLine", yard.errorLine(), model.errorLine);
        CHECK.same(run + ": buffered", yard.buffered(), 0);
    }

    private void due(String what, Object due, Check.Call call) {
        if (due instanceof Class<?>) {
            CHECK.fails(run + ": " + what, (Class<?>) due, call);
        } else {
            CHECK.same(run + ": " + what, call.answer(), (Integer) due);
        }
    }

    private void change() {
        int rod = number(model.now.rods.size());
        int length = length();
        int policy = number(4);
        int kind = number(model.kinds.size());
        int order = number(model.now.orders.size());
        int slot = number(2);
        switch (random.below(20)) {
            case 0, 1, 2, 3, 4:
                due("cutPiece", model.cutPiece(rod, length), () -> yard.cutPiece(rod, length));
                break;
            case 5, 6:
                int pattern = number(model.patterns.size());
                due("cutPattern", model.cutPattern(pattern, rod), () -> yard.cutPattern(pattern, rod));
                break;
            case 7:
                due("fill", model.fill(policy), () -> yard.fill(policy));
                break;
            case 8, 9:
                due("endRound", model.endRound(), yard::endRound);
                break;
            case 10, 11:
                due("buy", model.buy(kind), () -> yard.buy(kind));
                break;
            case 12, 13:
                addOrder(length);
                break;
            case 14:
                due("cancel", model.cancel(order), () -> yard.cancel(order));
                break;
            case 15:
                due("scrap", model.scrap(rod), () -> yard.scrap(rod));
                break;
            case 16:
                int value = random.below(12) - 1;
                due("setSetting", model.setSetting(slot, value), () -> yard.setSetting(slot, value));
                break;
            case 17, 18:
                due("undo", model.undo(), yard::undo);
                break;
            default:
                saveOrRestore(slot);
        }
    }

    private void addOrder(int length) {
        int count = random.below(11);
        int value = random.below(101);
        int due = random.below(30) == 0 ? 999 + random.below(2) : random.below(20);
        due("addOrder", model.addOrder(length, count, value, due), () -> yard.addOrder(length, count, value, due));
    }

    private void saveOrRestore(int slot) {
        if (random.below(3) > 0) {
            due("save", model.save(slot), () -> yard.save(slot));
        } else {
            due("restore", model.restore(slot), () -> yard.restore(slot));
        }
    }

    // ---- questions

    private void compareViews() {
        Model.State s = model.now;
        int[] counts = {model.kinds.size(), s.rods.size(), s.orders.size(), model.patterns.size(),
            (int) s.rods.stream().filter(r -> r.state == 0).count(),
            (int) s.orders.stream().filter(o -> o.lacking() > 0).count(), model.lacking(), s.store.size()};
        for (int what = 0; what < 8; what++) {
            CHECK.same(run + ": count " + what, yard.count(what), counts[what]);
        }
        int length = length();
        CHECK.same(run + ": wanted", yard.wanted(length), model.wanted(length));
        for (int policy = 0; policy < 3; policy++) {
            CHECK.same(run + ": rodFor " + policy, yard.rodFor(length, policy), model.rodFor(length, policy));
        }
        CHECK.same(run + ": longest", yard.longest(), model.rodFor(1, 2));
        CHECK.same(run + ": total", yard.total(), s.rods.stream().mapToInt(r -> r.length).sum());
        CHECK.same(run + ": worth", yard.worth(),
                s.rods.stream().mapToInt(r -> r.length * model.kinds.get(r.kind)[1]).sum());
        int first = -1;
        int overdue = 0;
        for (int o = 0; o < s.orders.size(); o++) {
            Model.Order order = s.orders.get(o);
            if (order.lacking() > 0 && (first < 0 || order.due < s.orders.get(first).due)) {
                first = o;
            }
            overdue += order.due < s.round ? order.lacking() : 0;
        }
        CHECK.same(run + ": firstDue", yard.firstDue(), first);
        CHECK.same(run + ": overdue", yard.overdue(), overdue);
        double mean = s.pieces == 0 ? 0 : (double) s.lossCost / s.pieces;
        int units = s.pieceUnits + s.kerfUnits + s.scrapUnits;
        float share = units == 0 ? 0 : (float) s.pieceUnits / units;
        CHECK.sameReal(run + ": meanLoss", yard.meanLoss(), mean);
        CHECK.sameReal(run + ": shareUsed", yard.shareUsed(), share);
    }

    private void comparePatterns() {
        int wanted = 0;
        for (int p = 0; p < model.patterns.size(); p++) {
            wanted |= model.isWanted(p) ? 1 << p : 0;
            CHECK.same(run + ": patternRod", yard.patternRod(p), model.patternRod(p));
            for (int r = 0; r < model.now.rods.size(); r++) {
                CHECK.same(run + ": patternLeft", yard.patternLeft(p, r), model.patternLeft(p, r));
                CHECK.same(run + ": fits", yard.fits(p, r), model.patternLeft(p, r) >= 0);
            }
        }
        CHECK.same(run + ": wantedPatterns", yard.wantedPatterns(), wanted);
        for (int r = 0; r < model.now.rods.size(); r++) {
            int[] best = model.best(r);
            CHECK.same(run + ": bestLeft " + r, yard.bestLeft(r), best[0]);
            CHECK.same(run + ": bestPieces " + r, yard.bestPieces(r), best[1]);
        }
    }

    private void compareTrials() {
        for (int policy = 0; policy < 4; policy++) {
            int[] due = model.ifFilled(policy);
            CHECK.same(run + ": piecesIf " + policy, yard.piecesIf(policy), due[0]);
            CHECK.same(run + ": lossIf " + policy, yard.lossIf(policy), due[1]);
            for (int o = 0; o < due.length - 2; o++) {
                CHECK.same(run + ": lackingIf " + policy, yard.lackingIf(policy, o), due[2 + o]);
            }
        }
        CHECK.same(run + ": bestPolicy", yard.bestPolicy(), model.bestPolicy());
        for (int k = 0; k < model.kinds.size(); k++) {
            CHECK.same(run + ": rodsNeeded", yard.rodsNeeded(k), model.rodsNeeded(k));
            CHECK.same(run + ": roundsToFill", yard.roundsToFill(k), model.roundsToFill(k));
        }
        CHECK.same(run + ": cheapestKind", yard.cheapestKind(), model.cheapestKind());
    }

    private void compareTexts() {
        CHECK.same(run + ": writeRods", yard.writeRods(), model.writeRods());
        CHECK.sameText(run + ": writeRods", Yards.text(yard, model.text.length()), model.text);
        for (int o = 0; o < model.now.orders.size(); o++) {
            CHECK.same(run + ": writeOrder", yard.writeOrder(o), model.writeOrder(o));
            CHECK.sameText(run + ": writeOrder", Yards.text(yard, model.text.length()), model.text);
        }
        CHECK.fails(run + ": textByte", Check.INDEX, () -> yard.textByte(model.text.length()));
    }

    // ---- texts with errors

    private void playText(int seed) {
        run = "text " + seed;
        StringBuilder text = new StringBuilder(seed % 3 == 0 ? crowdedText() : goodText());
        for (int i = random.below(4); i > 0; i--) {
            spoil(text);
        }
        text.setLength(Math.min(700, text.length()));
        load(text.toString());
    }

    /** A text near the greatest numbers of everything, or beyond them. */
    private String crowdedText() {
        StringBuilder text = new StringBuilder("yard kerf 0 keep 1");
        for (int i = 0; i < 45; i++) {
            switch (random.below(6)) {
                case 0:
                    text.append(";kind ").append(1 + random.below(3)).append(" ").append(1 + random.below(40));
                    break;
                case 1:
                    text.append(";rods ").append(random.below(3)).append(" ").append(1 + random.below(9));
                    break;
                case 2, 3, 4:
                    text.append(";order 1 1 1 1");
                    break;
                default:
                    text.append(";pattern 1 2 3 4 5".substring(0, 10 + 2 * random.below(5)));
                    text.append(random.below(4) == 0 ? " 6" : "").append(random.below(8) == 0 ? " 7" : "");
            }
        }
        return text.toString();
    }

    private void spoil(StringBuilder text) {
        int at = random.below(text.length() + 1);
        int end = Math.min(text.length(), at + random.below(6));
        switch (random.below(4)) {
            case 0:
                text.setLength(at);
                break;
            case 1:
                text.delete(at, end);
                break;
            case 2:
                text.replace(at, end, PIECES[random.below(PIECES.length)]);
                break;
            default:
                text.insert(at, PIECES[random.below(PIECES.length)]);
        }
    }
}
