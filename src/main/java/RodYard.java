/**
 * A yard in which rods are cut into pieces for orders. The document's promises say what each public method does; the
 * classes inside hold what a text fixes (Plan), what calls change (State), what is done with both (Works, Trial,
 * Packing), and how texts are read and written (Parser, Text).
 */
public final class RodYard {
    public static final int NONE = -1;

    private static final int MAX_BYTES = 700;
    private static final int APPENDED_BYTES = 20;
    private static final int MAX_KINDS = 4;
    private static final int MAX_PATTERNS = 6;
    private static final int MAX_PATTERN_SIZE = 6;
    private static final int MAX_TEXT_RODS = 24;
    private static final int MAX_RODS = 40;
    private static final int MAX_TEXT_ORDERS = 12;
    private static final int MAX_ORDERS = 16;
    private static final int MAX_TEXT_DUE = 99;
    private static final int MAX_DUE = 999;
    private static final int MAX_COUNT = 9;
    private static final int MAX_VALUE = 99;
    private static final int MAX_LENGTH = 200;
    private static final int MAX_PRICE = 99;
    private static final int MAX_KERF = 9;
    private static final int MIN_KEEP = 1;
    private static final int MAX_KEEP = 200;
    private static final int MAX_LOG = 60;
    private static final int MAX_UNDO = 8;
    private static final int SLOTS = 2;
    private static final int MAX_BOUGHT_AT_ONCE = 12;
    private static final int MAX_ROUNDS_TO_FILL = 40;
    private static final int LAST_POLICY = 3;

    /** roundsToFill buys a rod in each round, however many there are already. */
    private static final int ROD_ROOM = MAX_RODS + MAX_ROUNDS_TO_FILL;
    private static final int MAX_LACKING = MAX_ORDERS * MAX_COUNT;

    // The numbers of rows and places below are those that the document gives to the argument "what".
    private static final int KERF = 0;
    private static final int KEEP = 1;
    private static final int SETTINGS = 2;

    private static final int ROD_KIND = 0;
    private static final int ROD_LENGTH = 1;
    private static final int ROD_STATE = 2;
    private static final int ROD_PIECES = 3;
    private static final int ROD_CUT = 4;
    private static final int ROD_ROWS = 5;

    private static final int IN_STOCK = 0;
    private static final int USED_UP = 1;
    private static final int SCRAPPED = 2;

    private static final int ORDER_LENGTH = 0;
    private static final int ORDER_COUNT = 1;
    private static final int ORDER_VALUE = 2;
    private static final int ORDER_DUE = 3;
    private static final int ORDER_LACKING = 4;
    private static final int ORDER_IN_TIME = 5;
    private static final int ORDER_LATE = 6;
    private static final int ORDER_GONE = 7;
    private static final int ORDER_ROWS = 8;

    private static final int LOG_ROUND = 0;
    private static final int LOG_ROD = 1;
    private static final int LOG_LENGTH = 2;
    private static final int LOG_ORDER = 3;
    private static final int LOG_ROWS = 4;

    private static final int PURCHASES = 0;
    private static final int KERF_UNITS = 1;
    private static final int SCRAP_UNITS = 2;
    private static final int LOSS_COST = 3;
    private static final int EARNED = 4;
    private static final int PIECES = 5;
    private static final int LATE_PIECES = 6;
    private static final int PIECE_UNITS = 7;
    private static final int ACCOUNTS = 8;

    private final byte[] input;
    private int buffered;
    private final Parser parser;
    private int parseError;
    private int errorPosition;
    private int errorLine;

    private boolean loaded;
    private final Plan plan;
    private final State state;
    private final Works works;
    private final Trial trial;
    private final Packing packing;
    private final History history;
    private final State[] slots;
    private final boolean[] slotUsed;
    private final Text text;

    public RodYard() {
        input = new byte[MAX_BYTES];
        parser = new Parser(input);
        errorPosition = NONE;
        errorLine = NONE;
        plan = new Plan();
        state = new State();
        works = new Works(plan, state);
        trial = new Trial(plan, state);
        packing = new Packing(state);
        history = new History();
        slots = new State[SLOTS];
        for (int i = 0; i < SLOTS; i++) {
            slots[i] = new State();
        }
        slotUsed = new boolean[SLOTS];
        text = new Text();
    }

    // ---- input

    public int append(int a, int b, int c, int d, int e) {
        if (buffered < 0 || buffered > MAX_BYTES - APPENDED_BYTES) {
            return NONE;
        }
        putBytes(a, buffered);
        putBytes(b, buffered + 4);
        putBytes(c, buffered + 8);
        putBytes(d, buffered + 12);
        putBytes(e, buffered + 16);
        buffered += APPENDED_BYTES;
        return buffered;
    }

    public int load(int n) throws IndexOutOfBoundsException, IllegalArgumentException {
        if (n < 0 || n > buffered) {
            throw new IndexOutOfBoundsException("more bytes than the buffer has");
        }
        buffered = 0;
        if (!parser.readText(n)) {
            parseError = parser.error;
            errorPosition = parser.start;
            errorLine = parser.semicolonsAhead();
            throw new IllegalArgumentException("the text has an error");
        }
        parseError = 0;
        errorPosition = NONE;
        errorLine = NONE;
        takeParsedYard();
        return state.rods;
    }

    public int parseError() {
        return parseError;
    }

    public int errorPosition() {
        return errorPosition;
    }

    public int errorLine() {
        return errorLine;
    }

    public int buffered() {
        return buffered;
    }

    // ---- what there is

    public int count(int what) throws IllegalStateException, IllegalArgumentException {
        needYard();
        switch (what) {
            case 0:
                return plan.kinds;
            case 1:
                return state.rods;
            case 2:
                return state.orders;
            case 3:
                return plan.patterns;
            case 4:
                return state.rodsInStock();
            case 5:
                return state.openOrders();
            case 6:
                return state.lackingPieces();
            case 7:
                return state.storedPieces();
            default:
                throw new IllegalArgumentException("no such count");
        }
    }

    public int kind(int kind, boolean price) throws IllegalStateException, IndexOutOfBoundsException {
        needYard();
        needKind(kind);
        return price ? plan.kindPrice[kind] : plan.kindLength[kind];
    }

    public int rod(int rod, int what)
            throws IllegalStateException, IndexOutOfBoundsException, IllegalArgumentException {
        needYard();
        needRod(rod);
        needRange(what, 0, ROD_ROWS - 1);
        return state.rod[what][rod];
    }

    public int order(int order, int what)
            throws IllegalStateException, IndexOutOfBoundsException, IllegalArgumentException {
        needYard();
        needOrder(order);
        needRange(what, 0, ORDER_ROWS - 1);
        return state.order[what][order];
    }

    public int patternSize(int pattern) throws IllegalStateException, IndexOutOfBoundsException {
        needYard();
        needPattern(pattern);
        return plan.patternSize[pattern];
    }

    public int patternLength(int pattern, int k) throws IllegalStateException, IndexOutOfBoundsException {
        needYard();
        needPattern(pattern);
        if (k < 0 || k >= plan.patternSize[pattern]) {
            throw new IndexOutOfBoundsException("no such length of the pattern");
        }
        return plan.pattern[pattern][k];
    }

    public int setting(int what) throws IllegalStateException, IllegalArgumentException {
        needYard();
        needRange(what, 0, SETTINGS - 1);
        return state.setting[what];
    }

    public int round() throws IllegalStateException {
        needYard();
        return state.round;
    }

    // ---- lengths

    public int wanted(int length) throws IllegalStateException, IllegalArgumentException {
        needYard();
        needLength(length);
        return state.lackingOf(length);
    }

    public int stored(int length) throws IllegalStateException, IllegalArgumentException {
        needYard();
        needLength(length);
        return state.store[length];
    }

    public int left(int rod, int length)
            throws IllegalStateException, IndexOutOfBoundsException, IllegalArgumentException {
        needYard();
        needRod(rod);
        needLength(length);
        return works.leftBehind(state.rod[ROD_LENGTH][rod], length);
    }

    public int rodFor(int length, int policy) throws IllegalStateException, IllegalArgumentException {
        needYard();
        needLength(length);
        needRange(policy, 0, LAST_POLICY - 1);
        return works.chooseRod(length, policy);
    }

    public int longest() throws IllegalStateException {
        needYard();
        return state.longestRod();
    }

    public int total() throws IllegalStateException {
        needYard();
        int sum = 0;
        for (int r = 0; r < state.rods; r++) {
            sum += state.rod[ROD_LENGTH][r];
        }
        return sum;
    }

    public int worth() throws IllegalStateException {
        needYard();
        int sum = 0;
        for (int r = 0; r < state.rods; r++) {
            sum += state.rod[ROD_LENGTH][r] * works.priceOf(r);
        }
        return sum;
    }

    public int firstDue() throws IllegalStateException {
        needYard();
        return state.firstDueUpTo(MAX_LENGTH);
    }

    public int overdue() throws IllegalStateException {
        needYard();
        int pieces = 0;
        for (int o = 0; o < state.orders; o++) {
            if (state.order[ORDER_DUE][o] < state.round) {
                pieces += state.order[ORDER_LACKING][o];
            }
        }
        return pieces;
    }

    // ---- patterns

    public boolean fits(int pattern, int rod) throws IllegalStateException, IndexOutOfBoundsException {
        needYard();
        needPattern(pattern);
        needRod(rod);
        return works.leftByPattern(pattern, rod) != NONE;
    }

    public int patternLeft(int pattern, int rod) throws IllegalStateException, IndexOutOfBoundsException {
        needYard();
        needPattern(pattern);
        needRod(rod);
        return works.leftByPattern(pattern, rod);
    }

    public int patternRod(int pattern) throws IllegalStateException, IndexOutOfBoundsException {
        needYard();
        needPattern(pattern);
        return works.choosePatternRod(pattern);
    }

    public int wantedPatterns() throws IllegalStateException {
        needYard();
        int bits = 0;
        for (int p = 0; p < plan.patterns; p++) {
            if (works.isWanted(p)) {
                bits |= 1 << p;
            }
        }
        return bits;
    }

    public int bestLeft(int rod) throws IllegalStateException, IndexOutOfBoundsException {
        needYard();
        needRod(rod);
        packing.pack(state.rod[ROD_LENGTH][rod]);
        return packing.leastLeft;
    }

    public int bestPieces(int rod) throws IllegalStateException, IndexOutOfBoundsException {
        needYard();
        needRod(rod);
        packing.pack(state.rod[ROD_LENGTH][rod]);
        return packing.fewestPieces;
    }

    // ---- what-if questions

    public int piecesIf(int policy) throws IllegalStateException, IllegalArgumentException {
        needYard();
        needRange(policy, 0, LAST_POLICY);
        return trial.piecesBy(policy);
    }

    public int lossIf(int policy) throws IllegalStateException, IllegalArgumentException {
        needYard();
        needRange(policy, 0, LAST_POLICY);
        return trial.lossBy(policy);
    }

    public int lackingIf(int policy, int order)
            throws IllegalStateException, IndexOutOfBoundsException, IllegalArgumentException {
        needYard();
        needOrder(order);
        needRange(policy, 0, LAST_POLICY);
        return trial.lackingBy(policy, order);
    }

    public int bestPolicy() throws IllegalStateException {
        needYard();
        int best = NONE;
        int bestPieces = 0;
        int bestLoss = 0;
        for (int policy = 0; policy <= LAST_POLICY; policy++) {
            int pieces = trial.piecesBy(policy);
            int loss = trial.lossBy(policy);
            if (best == NONE || pieces > bestPieces || pieces == bestPieces && loss < bestLoss) {
                best = policy;
                bestPieces = pieces;
                bestLoss = loss;
            }
        }
        return best;
    }

    public int rodsNeeded(int kind) throws IllegalStateException, IndexOutOfBoundsException {
        needYard();
        needKind(kind);
        return trial.rodsToBuy(kind);
    }

    public int cheapestKind() throws IllegalStateException {
        needYard();
        return trial.chooseKind();
    }

    public int roundsToFill(int kind) throws IllegalStateException, IndexOutOfBoundsException {
        needYard();
        needKind(kind);
        return trial.roundsWith(kind);
    }

    // ---- accounts, log and texts

    public int account(int what) throws IllegalStateException, IllegalArgumentException {
        needYard();
        needRange(what, 0, ACCOUNTS - 1);
        return state.account[what];
    }

    public double meanLoss() throws IllegalStateException {
        needYard();
        int pieces = state.account[PIECES];
        if (pieces == 0) {
            return 0.0;
        }
        return (double) state.account[LOSS_COST] / (double) pieces;
    }

    public float shareUsed() throws IllegalStateException {
        needYard();
        int used = state.account[PIECE_UNITS];
        int all = used + state.account[KERF_UNITS] + state.account[SCRAP_UNITS];
        if (all == 0) {
            return 0.0f;
        }
        return (float) used / (float) all;
    }

    public int cuts() {
        return loaded ? state.cuts : 0;
    }

    public int cut(int k, int what)
            throws IllegalStateException, IndexOutOfBoundsException, IllegalArgumentException {
        needYard();
        if (k < 0 || k >= state.cuts) {
            throw new IndexOutOfBoundsException("no such cut");
        }
        needRange(what, 0, LOG_ROWS - 1);
        return state.log[what][k];
    }

    public int writeRods() throws IllegalStateException {
        needYard();
        text.size = 0;
        for (int r = 0; r < state.rods; r++) {
            if (state.rod[ROD_STATE][r] == IN_STOCK) {
                writeRod(r);
            }
        }
        if (text.size == 0) {
            text.putSign('-');
        }
        return text.size;
    }

    public int writeOrder(int order) throws IllegalStateException, IndexOutOfBoundsException {
        needYard();
        needOrder(order);
        text.size = 0;
        text.putNumber(state.order[ORDER_LENGTH][order]);
        text.putSign('x');
        text.putNumber(state.order[ORDER_COUNT][order]);
        text.putSign(' ');
        text.putNumber(state.order[ORDER_IN_TIME][order]);
        text.putSign('+');
        text.putNumber(state.order[ORDER_LATE][order]);
        text.putSign('/');
        text.putNumber(state.order[ORDER_LACKING][order]);
        text.putSign(' ');
        text.putSign('d');
        text.putNumber(state.order[ORDER_DUE][order]);
        if (state.order[ORDER_GONE][order] == 1) {
            text.putWord(" gone");
        }
        return text.size;
    }

    public int textByte(int i) throws IndexOutOfBoundsException {
        if (i < 0 || i >= text.size) {
            throw new IndexOutOfBoundsException("no such byte of the text");
        }
        return text.bytes[i];
    }

    // ---- changes (each can be undone, the latest one first)

    public int cutPiece(int rod, int length)
            throws IllegalStateException, IndexOutOfBoundsException, IllegalArgumentException {
        needYard();
        needRod(rod);
        needLength(length);
        if (works.leftBehind(state.rod[ROD_LENGTH][rod], length) == NONE) {
            throw new IllegalArgumentException("the piece cannot be cut from the rod");
        }
        history.keepCopy(state);
        return works.cutOne(rod, length);
    }

    public int cutPattern(int pattern, int rod)
            throws IllegalStateException, IndexOutOfBoundsException, IllegalArgumentException {
        needYard();
        needPattern(pattern);
        needRod(rod);
        if (works.leftByPattern(pattern, rod) == NONE) {
            throw new IllegalArgumentException("the pattern does not fit the rod");
        }
        history.keepCopy(state);
        return works.cutWhole(pattern, rod);
    }

    public int fill(int policy) throws IllegalStateException, IllegalArgumentException {
        needYard();
        needRange(policy, 0, LAST_POLICY);
        history.keepCopy(state);
        return works.fillBy(policy);
    }

    public int endRound() throws IllegalStateException {
        needYard();
        history.keepCopy(state);
        return works.closeRound();
    }

    public int buy(int kind) throws IllegalStateException, IndexOutOfBoundsException, IllegalArgumentException {
        needYard();
        needKind(kind);
        if (state.rods >= MAX_RODS) {
            throw new IllegalArgumentException("no room for another rod");
        }
        history.keepCopy(state);
        return works.buyRod(kind);
    }

    public int addOrder(int length, int count, int value, int due)
            throws IllegalStateException, IllegalArgumentException {
        needYard();
        if (state.orders >= MAX_ORDERS) {
            throw new IllegalArgumentException("no room for another order");
        }
        needLength(length);
        needRange(count, 1, MAX_COUNT);
        needRange(value, 0, MAX_VALUE);
        needRange(due, 0, MAX_DUE);
        history.keepCopy(state);
        int order = state.enterOrder(length, count, value, due);
        works.supplyFromStore(order);
        return order;
    }

    public int cancel(int order) throws IllegalStateException, IndexOutOfBoundsException, IllegalArgumentException {
        needYard();
        needOrder(order);
        int lacking = state.order[ORDER_LACKING][order];
        if (lacking == 0) {
            throw new IllegalArgumentException("the order is not open");
        }
        history.keepCopy(state);
        state.order[ORDER_LACKING][order] = 0;
        state.order[ORDER_GONE][order] = 1;
        return lacking;
    }

    public int scrap(int rod) throws IllegalStateException, IndexOutOfBoundsException, IllegalArgumentException {
        needYard();
        needRod(rod);
        if (state.rod[ROD_STATE][rod] != IN_STOCK) {
            throw new IllegalArgumentException("the rod is not in stock");
        }
        history.keepCopy(state);
        return works.scrapRod(rod);
    }

    public int setSetting(int what, int value) throws IllegalStateException, IllegalArgumentException {
        needYard();
        needRange(what, 0, SETTINGS - 1);
        if (what == KERF) {
            needRange(value, 0, MAX_KERF);
        } else {
            needRange(value, MIN_KEEP, MAX_KEEP);
        }
        history.keepCopy(state);
        int previous = state.setting[what];
        state.setting[what] = value;
        return previous;
    }

    public int undo() throws IllegalStateException {
        if (history.size == 0) {
            throw new IllegalStateException("no change to undo");
        }
        history.giveBack(state);
        return history.size;
    }

    public int undoable() {
        return history.size;
    }

    public int save(int slot) throws IllegalStateException, IndexOutOfBoundsException {
        needYard();
        needSlot(slot);
        slots[slot].copyFrom(state);
        slotUsed[slot] = true;
        return state.round;
    }

    public int restore(int slot) throws IndexOutOfBoundsException, IllegalStateException {
        needSlot(slot);
        if (!slotUsed[slot]) {
            throw new IllegalStateException("nothing is saved in the slot");
        }
        state.copyFrom(slots[slot]);
        history.size = 0;
        return state.round;
    }

    // ---- helpers of the face

    private void putBytes(int word, int at) {
        if (at < 0 || at > MAX_BYTES - 4) {
            return;
        }
        input[at] = (byte) (word >>> 24);
        input[at + 1] = (byte) (word >>> 16);
        input[at + 2] = (byte) (word >>> 8);
        input[at + 3] = (byte) word;
    }

    private void takeParsedYard() {
        plan.copyFrom(parser.plan);
        state.copyFrom(parser.state);
        history.size = 0;
        for (int i = 0; i < SLOTS; i++) {
            slotUsed[i] = false;
        }
        loaded = true;
    }

    private void writeRod(int rod) {
        if (text.size > 0) {
            text.putSign(',');
        }
        text.putNumber(rod);
        text.putSign(':');
        text.putNumber(state.rod[ROD_LENGTH][rod]);
        if (state.rod[ROD_CUT][rod] == 1) {
            text.putSign('*');
        }
    }

    private void needYard() {
        if (!loaded) {
            throw new IllegalStateException("there is no yard");
        }
    }

    private void needKind(int kind) {
        if (kind < 0 || kind >= plan.kinds) {
            throw new IndexOutOfBoundsException("no such kind");
        }
    }

    private void needRod(int rod) {
        if (rod < 0 || rod >= state.rods) {
            throw new IndexOutOfBoundsException("no such rod");
        }
    }

    private void needOrder(int order) {
        if (order < 0 || order >= state.orders) {
            throw new IndexOutOfBoundsException("no such order");
        }
    }

    private void needPattern(int pattern) {
        if (pattern < 0 || pattern >= plan.patterns) {
            throw new IndexOutOfBoundsException("no such pattern");
        }
    }

    private static void needSlot(int slot) {
        if (slot < 0 || slot >= SLOTS) {
            throw new IndexOutOfBoundsException("no such slot");
        }
    }

    private static void needLength(int length) {
        needRange(length, 1, MAX_LENGTH);
    }

    private static void needRange(int value, int least, int greatest) {
        if (value < least || value > greatest) {
            throw new IllegalArgumentException("an argument is out of its range");
        }
    }

    /** What a text fixes: the kinds and the patterns. */
    private static final class Plan {
        int kinds;
        final int[] kindLength = new int[MAX_KINDS];
        final int[] kindPrice = new int[MAX_KINDS];
        int patterns;
        final int[] patternSize = new int[MAX_PATTERNS];
        final int[][] pattern = new int[MAX_PATTERNS][MAX_PATTERN_SIZE];

        void copyFrom(Plan other) {
            kinds = other.kinds;
            patterns = other.patterns;
            System.arraycopy(other.kindLength, 0, kindLength, 0, MAX_KINDS);
            System.arraycopy(other.kindPrice, 0, kindPrice, 0, MAX_KINDS);
            System.arraycopy(other.patternSize, 0, patternSize, 0, MAX_PATTERNS);
            for (int p = 0; p < MAX_PATTERNS; p++) {
                System.arraycopy(other.pattern[p], 0, pattern[p], 0, MAX_PATTERN_SIZE);
            }
        }

        void enterKind(int length, int price) {
            if (kinds < MAX_KINDS) {
                kindLength[kinds] = length;
                kindPrice[kinds] = price;
                kinds++;
            }
        }

        boolean hasKind(int length, int price) {
            for (int k = 0; k < kinds; k++) {
                if (kindLength[k] == length && kindPrice[k] == price) {
                    return true;
                }
            }
            return false;
        }

        void enterPattern() {
            if (patterns < MAX_PATTERNS) {
                patternSize[patterns] = 0;
                patterns++;
            }
        }

        void extendLastPattern(int length) {
            int p = patterns - 1;
            if (p >= 0 && patternSize[p] < MAX_PATTERN_SIZE) {
                pattern[p][patternSize[p]] = length;
                patternSize[p]++;
            }
        }
    }

    /**
     * The state of the document's section 7. A rod that is not in stock always has the length 0, and an order that is
     * not open always lacks 0, so that most questions need to look at the length or at what is lacking alone.
     */
    private static final class State {
        int round;
        final int[] setting = new int[SETTINGS];
        int rods;
        final int[][] rod = new int[ROD_ROWS][ROD_ROOM];
        int orders;
        final int[][] order = new int[ORDER_ROWS][MAX_ORDERS];
        final int[] store = new int[MAX_LENGTH + 1];
        int cuts;
        final int[][] log = new int[LOG_ROWS][MAX_LOG];
        final int[] account = new int[ACCOUNTS];

        void copyFrom(State other) {
            round = other.round;
            rods = other.rods;
            orders = other.orders;
            cuts = other.cuts;
            System.arraycopy(other.setting, 0, setting, 0, SETTINGS);
            System.arraycopy(other.store, 0, store, 0, MAX_LENGTH + 1);
            System.arraycopy(other.account, 0, account, 0, ACCOUNTS);
            for (int i = 0; i < ROD_ROWS; i++) {
                System.arraycopy(other.rod[i], 0, rod[i], 0, rods);
            }
            for (int i = 0; i < ORDER_ROWS; i++) {
                System.arraycopy(other.order[i], 0, order[i], 0, orders);
            }
            for (int i = 0; i < LOG_ROWS; i++) {
                System.arraycopy(other.log[i], 0, log[i], 0, cuts);
            }
        }

        int enterRod(int kind, int length) {
            if (rods >= ROD_ROOM) {
                return NONE;
            }
            int r = rods;
            rod[ROD_KIND][r] = kind;
            rod[ROD_LENGTH][r] = length;
            rod[ROD_STATE][r] = IN_STOCK;
            rod[ROD_PIECES][r] = 0;
            rod[ROD_CUT][r] = 0;
            rods++;
            return r;
        }

        int enterOrder(int length, int count, int value, int due) {
            if (orders >= MAX_ORDERS) {
                return NONE;
            }
            int o = orders;
            order[ORDER_LENGTH][o] = length;
            order[ORDER_COUNT][o] = count;
            order[ORDER_VALUE][o] = value;
            order[ORDER_DUE][o] = due;
            order[ORDER_LACKING][o] = count;
            order[ORDER_IN_TIME][o] = 0;
            order[ORDER_LATE][o] = 0;
            order[ORDER_GONE][o] = 0;
            orders++;
            return o;
        }

        void logCut(int r, int length, int o) {
            if (cuts < MAX_LOG) {
                log[LOG_ROUND][cuts] = round;
                log[LOG_ROD][cuts] = r;
                log[LOG_LENGTH][cuts] = length;
                log[LOG_ORDER][cuts] = o;
                cuts++;
            }
        }

        int rodsInStock() {
            int found = 0;
            for (int r = 0; r < rods; r++) {
                if (rod[ROD_STATE][r] == IN_STOCK) {
                    found++;
                }
            }
            return found;
        }

        int longestRod() {
            int best = NONE;
            for (int r = 0; r < rods; r++) {
                int length = rod[ROD_LENGTH][r];
                if (length > 0 && (best == NONE || length > rod[ROD_LENGTH][best])) {
                    best = r;
                }
            }
            return best;
        }

        int openOrders() {
            int found = 0;
            for (int o = 0; o < orders; o++) {
                if (order[ORDER_LACKING][o] > 0) {
                    found++;
                }
            }
            return found;
        }

        int lackingPieces() {
            int pieces = 0;
            for (int o = 0; o < orders; o++) {
                pieces += order[ORDER_LACKING][o];
            }
            return pieces;
        }

        int lackingOf(int length) {
            int pieces = 0;
            for (int o = 0; o < orders; o++) {
                if (order[ORDER_LENGTH][o] == length) {
                    pieces += order[ORDER_LACKING][o];
                }
            }
            return pieces;
        }

        int storedPieces() {
            int pieces = 0;
            for (int length = 1; length <= MAX_LENGTH; length++) {
                pieces += store[length];
            }
            return pieces;
        }

        /** The open order with the least DUE among those whose pieces are no longer than limit. */
        int firstDueUpTo(int limit) {
            int best = NONE;
            for (int o = 0; o < orders; o++) {
                if (order[ORDER_LACKING][o] > 0 && order[ORDER_LENGTH][o] <= limit
                        && (best == NONE || order[ORDER_DUE][o] < order[ORDER_DUE][best])) {
                    best = o;
                }
            }
            return best;
        }

        /** The greatest length of open orders that is no longer than limit. */
        int greatestLackingUpTo(int limit) {
            int best = NONE;
            for (int o = 0; o < orders; o++) {
                int length = order[ORDER_LENGTH][o];
                if (order[ORDER_LACKING][o] > 0 && length <= limit && length > best) {
                    best = length;
                }
            }
            return best;
        }

        /** The open order to which a piece of this length goes. */
        int takerOf(int length) {
            int best = NONE;
            for (int o = 0; o < orders; o++) {
                if (order[ORDER_LACKING][o] > 0 && order[ORDER_LENGTH][o] == length
                        && (best == NONE || order[ORDER_DUE][o] < order[ORDER_DUE][best])) {
                    best = o;
                }
            }
            return best;
        }
    }

    /** The work in a yard: cutting, filling, ending rounds and buying, on one state. */
    private static final class Works {
        private final Plan plan;
        private final State state;

        Works(Plan plan, State state) {
            this.plan = plan;
            this.state = state;
        }

        int priceOf(int rod) {
            return plan.kindPrice[state.rod[ROD_KIND][rod]];
        }

        /** The length that is left of a rod behind a piece and its kerf; NONE if the piece is too long. */
        int leftBehind(int rodLength, int piece) {
            return piece > rodLength ? NONE : Math.max(0, rodLength - piece - state.setting[KERF]);
        }

        int leftByPattern(int pattern, int rod) {
            int length = state.rod[ROD_LENGTH][rod];
            int size = plan.patternSize[pattern];
            for (int k = 0; k < size && length != NONE; k++) {
                length = leftBehind(length, plan.pattern[pattern][k]);
            }
            return length;
        }

        int chooseRod(int length, int policy) {
            int best = NONE;
            for (int r = 0; r < state.rods; r++) {
                if (state.rod[ROD_LENGTH][r] >= length && (best == NONE || prefers(policy, r, best))) {
                    best = r;
                }
            }
            return best;
        }

        private boolean prefers(int policy, int rod, int earlier) {
            int length = state.rod[ROD_LENGTH][rod];
            int earlierLength = state.rod[ROD_LENGTH][earlier];
            return policy == 1 && length < earlierLength || policy == 2 && length > earlierLength;
        }

        int choosePatternRod(int pattern) {
            int best = NONE;
            for (int r = 0; r < state.rods; r++) {
                if (leftByPattern(pattern, r) != NONE
                        && (best == NONE || state.rod[ROD_LENGTH][r] < state.rod[ROD_LENGTH][best])) {
                    best = r;
                }
            }
            return best;
        }

        boolean isWanted(int pattern) {
            int size = plan.patternSize[pattern];
            for (int k = 0; k < size; k++) {
                int length = plan.pattern[pattern][k];
                if (timesIn(pattern, length) > state.lackingOf(length)) {
                    return false;
                }
            }
            return true;
        }

        private int timesIn(int pattern, int length) {
            int size = plan.patternSize[pattern];
            int times = 0;
            for (int k = 0; k < size; k++) {
                if (plan.pattern[pattern][k] == length) {
                    times++;
                }
            }
            return times;
        }

        /** Cuts a piece that is not too long for the rod, and gives it to an order or to the store. */
        int cutOne(int rod, int length) {
            int rest = state.rod[ROD_LENGTH][rod] - length;
            int lost = Math.min(state.setting[KERF], rest);
            state.rod[ROD_LENGTH][rod] = rest - lost;
            if (rest == lost) {
                state.rod[ROD_STATE][rod] = USED_UP;
            }
            state.rod[ROD_PIECES][rod]++;
            state.rod[ROD_CUT][rod] = 1;
            state.account[KERF_UNITS] += lost;
            state.account[LOSS_COST] += lost * priceOf(rod);
            state.account[PIECES]++;
            state.account[PIECE_UNITS] += length;
            int order = state.takerOf(length);
            if (order == NONE) {
                state.store[length]++;
            } else {
                deliver(order);
            }
            state.logCut(rod, length, order);
            return order;
        }

        private void deliver(int order) {
            int value = state.order[ORDER_VALUE][order];
            state.order[ORDER_LACKING][order]--;
            if (state.round <= state.order[ORDER_DUE][order]) {
                state.order[ORDER_IN_TIME][order]++;
                state.account[EARNED] += value;
            } else {
                state.order[ORDER_LATE][order]++;
                state.account[LATE_PIECES]++;
                state.account[EARNED] += value / 2;
            }
        }

        void supplyFromStore(int order) {
            if (order == NONE) {
                return;
            }
            int length = state.order[ORDER_LENGTH][order];
            int pieces = Math.min(state.store[length], state.order[ORDER_LACKING][order]);
            for (int i = 0; i < pieces; i++) {
                deliver(order);
            }
            state.store[length] -= pieces;
        }

        /** Cuts a pattern that fits; tells how many of its pieces came into the store. */
        int cutWhole(int pattern, int rod) {
            int size = plan.patternSize[pattern];
            int intoStore = 0;
            for (int k = 0; k < size; k++) {
                if (cutOne(rod, plan.pattern[pattern][k]) == NONE) {
                    intoStore++;
                }
            }
            return intoStore;
        }

        int fillBy(int policy) {
            if (policy == LAST_POLICY) {
                return fillByPatterns() + fillByPieces(1);
            }
            return fillByPieces(policy);
        }

        /** Fills by one of the policies that take the wanted pieces one by one. */
        int fillByPieces(int policy) {
            for (int pieces = 0; pieces < MAX_LACKING; pieces++) {
                int length = nextLength(policy);
                int rod = length == NONE ? NONE : chooseRod(length, policy);
                if (rod == NONE) {
                    return pieces;
                }
                cutOne(rod, length);
            }
            return MAX_LACKING;
        }

        private int nextLength(int policy) {
            int longest = state.longestRod();
            if (longest == NONE) {
                return NONE;
            }
            int limit = state.rod[ROD_LENGTH][longest];
            if (policy != 0) {
                return state.greatestLackingUpTo(limit);
            }
            int order = state.firstDueUpTo(limit);
            return order == NONE ? NONE : state.order[ORDER_LENGTH][order];
        }

        private int fillByPatterns() {
            int pieces = 0;
            for (int p = 0; p < plan.patterns; p++) {
                // Each time takes at least one of the pieces that are lacking.
                for (int times = 0; times < MAX_LACKING && isWanted(p); times++) {
                    int rod = choosePatternRod(p);
                    if (rod == NONE) {
                        break;
                    }
                    cutWhole(p, rod);
                    pieces += plan.patternSize[p];
                }
            }
            return pieces;
        }

        int closeRound() {
            int lost = 0;
            for (int r = 0; r < state.rods; r++) {
                if (state.rod[ROD_CUT][r] == 1 && state.rod[ROD_STATE][r] == IN_STOCK
                        && state.rod[ROD_LENGTH][r] < state.setting[KEEP]) {
                    lost += scrapRod(r);
                }
                state.rod[ROD_CUT][r] = 0;
            }
            state.round++;
            return lost;
        }

        int scrapRod(int rod) {
            int lost = state.rod[ROD_LENGTH][rod];
            state.rod[ROD_LENGTH][rod] = 0;
            state.rod[ROD_STATE][rod] = SCRAPPED;
            state.account[SCRAP_UNITS] += lost;
            state.account[LOSS_COST] += lost * priceOf(rod);
            return lost;
        }

        int buyRod(int kind) {
            int length = plan.kindLength[kind];
            state.account[PURCHASES] += length * plan.kindPrice[kind];
            return state.enterRod(kind, length);
        }
    }

    /** The what-if questions: each one works on a copy of the real state. */
    private static final class Trial {
        private final Plan plan;
        private final State real;
        private final State state;
        private final Works works;

        Trial(Plan plan, State real) {
            this.plan = plan;
            this.real = real;
            state = new State();
            works = new Works(plan, state);
        }

        int piecesBy(int policy) {
            state.copyFrom(real);
            return works.fillBy(policy);
        }

        int lossBy(int policy) {
            state.copyFrom(real);
            works.fillBy(policy);
            works.closeRound();
            return state.account[LOSS_COST] - real.account[LOSS_COST];
        }

        int lackingBy(int policy, int order) {
            state.copyFrom(real);
            works.fillBy(policy);
            return state.order[ORDER_LACKING][order];
        }

        int rodsToBuy(int kind) {
            for (int n = 0; n <= MAX_BOUGHT_AT_ONCE; n++) {
                state.copyFrom(real);
                for (int i = 0; i < n; i++) {
                    works.buyRod(kind);
                }
                works.fillByPieces(1);
                if (state.lackingPieces() == 0) {
                    return n;
                }
            }
            return NONE;
        }

        int chooseKind() {
            int best = NONE;
            int bestCost = 0;
            for (int k = 0; k < plan.kinds; k++) {
                int rods = rodsToBuy(k);
                int cost = rods * plan.kindLength[k] * plan.kindPrice[k];
                if (rods != NONE && (best == NONE || cost < bestCost)) {
                    best = k;
                    bestCost = cost;
                }
            }
            return best;
        }

        int roundsWith(int kind) {
            state.copyFrom(real);
            for (int ended = 0; ended <= MAX_ROUNDS_TO_FILL; ended++) {
                works.fillByPieces(1);
                if (state.lackingPieces() == 0) {
                    return ended;
                }
                if (ended < MAX_ROUNDS_TO_FILL) {
                    works.buyRod(kind);
                    works.closeRound();
                }
            }
            return NONE;
        }
    }

    /**
     * Finds the least length that wanted pieces can leave of a rod. Each piece takes its length and KERF; pieces can
     * be cut, in whatever order, if what they take together exceeds the rod by no more than the KERF of the last one.
     */
    private static final class Packing {
        private static final int NEVER = 1000;

        private final State state;
        /** fewest[t]: the least number of wanted pieces that take t units together. */
        private final int[] fewest = new int[MAX_LENGTH + MAX_KERF + 1];
        int leastLeft;
        int fewestPieces;

        Packing(State state) {
            this.state = state;
        }

        void pack(int rodLength) {
            int most = Math.min(rodLength + state.setting[KERF], MAX_LENGTH + MAX_KERF);
            fewest[0] = 0;
            for (int taken = 1; taken <= most; taken++) {
                fewest[taken] = NEVER;
            }
            for (int o = 0; o < state.orders; o++) {
                int lacking = state.order[ORDER_LACKING][o];
                for (int i = 0; i < lacking; i++) {
                    offerPiece(state.order[ORDER_LENGTH][o] + state.setting[KERF], most);
                }
            }
            pickBest(rodLength, most);
        }

        private void offerPiece(int units, int most) {
            // Downwards, so that the same piece is not taken twice.
            for (int taken = most; taken >= units; taken--) {
                fewest[taken] = Math.min(fewest[taken], fewest[taken - units] + 1);
            }
        }

        private void pickBest(int rodLength, int most) {
            leastLeft = rodLength;
            fewestPieces = 0;
            for (int taken = 1; taken <= most; taken++) {
                int left = Math.max(0, rodLength - taken);
                if (fewest[taken] < NEVER
                        && (left < leastLeft || left == leastLeft && fewest[taken] < fewestPieces)) {
                    leastLeft = left;
                    fewestPieces = fewest[taken];
                }
            }
        }
    }

    /** The states ahead of the latest changes, in a ring. */
    private static final class History {
        private final State[] states = new State[MAX_UNDO];
        private int next;
        int size;

        History() {
            for (int i = 0; i < MAX_UNDO; i++) {
                states[i] = new State();
            }
        }

        void keepCopy(State state) {
            states[next].copyFrom(state);
            next = next == MAX_UNDO - 1 ? 0 : next + 1;
            size = Math.min(size + 1, MAX_UNDO);
        }

        void giveBack(State state) {
            if (size > 0) {
                next = next == 0 ? MAX_UNDO - 1 : next - 1;
                size--;
                state.copyFrom(states[next]);
            }
        }
    }

    /** Reads a text into a plan and a state of its own, so that an error leaves the yard as it was. */
    private static final class Parser {
        private static final int WORD = 0;
        private static final int NUMBER = 1;
        private static final int SEMICOLON = 2;
        private static final int END = 3;
        private static final int BAD = 4;

        private static final int MAX_LETTERS = 8;
        private static final int MAX_DIGITS = 3;

        private static final int SYNTAX = 1;
        private static final int BOUNDS = 2;
        private static final int SAME_KIND = 3;
        private static final int TOO_MANY = 4;

        private final byte[] bytes;
        final Plan plan = new Plan();
        final State state = new State();
        private int end;
        /** The byte behind the current token, the token's first byte, and what it is. */
        private int at;
        int start;
        private int type;
        private int value;
        int error;

        Parser(byte[] bytes) {
            this.bytes = bytes;
        }

        boolean readText(int n) {
            beginText(n);
            if (!readHead()) {
                return false;
            }
            // Each line has a semicolon, so that there are no more lines than bytes.
            for (int lines = 0; lines <= MAX_BYTES; lines++) {
                nextToken();
                if (type == END) {
                    return true;
                }
                if (type != SEMICOLON) {
                    return fail(SYNTAX);
                }
                if (!readLine()) {
                    return false;
                }
            }
            return fail(SYNTAX);
        }

        private void beginText(int n) {
            end = Math.min(n, MAX_BYTES);
            at = 0;
            plan.kinds = 0;
            plan.patterns = 0;
            // A text only brings rods, orders and settings; all else of this state stays as it was made.
            state.rods = 0;
            state.orders = 0;
        }

        int semicolonsAhead() {
            int found = 0;
            for (int i = 0; i < start; i++) {
                if (bytes[i] == ';') {
                    found++;
                }
            }
            return found;
        }

        private boolean readHead() {
            if (!readWord("yard") || !readWord("kerf") || !readNumber(0, MAX_KERF)) {
                return false;
            }
            state.setting[KERF] = value;
            if (!readWord("keep") || !readNumber(MIN_KEEP, MAX_KEEP)) {
                return false;
            }
            state.setting[KEEP] = value;
            return true;
        }

        private boolean readLine() {
            nextToken();
            if (isWord("kind")) {
                return readKind();
            }
            if (isWord("rods")) {
                return readRods();
            }
            if (isWord("order")) {
                return readOrder();
            }
            if (isWord("pattern")) {
                return readPattern();
            }
            return fail(SYNTAX);
        }

        private boolean readKind() {
            if (plan.kinds >= MAX_KINDS) {
                return fail(TOO_MANY);
            }
            if (!readNumber(1, MAX_LENGTH)) {
                return false;
            }
            int length = value;
            if (!readNumber(1, MAX_PRICE)) {
                return false;
            }
            if (plan.hasKind(length, value)) {
                return fail(SAME_KIND);
            }
            plan.enterKind(length, value);
            return true;
        }

        private boolean readRods() {
            if (!readNumber(0, plan.kinds - 1)) {
                return false;
            }
            int kind = value;
            if (!readNumber(1, MAX_COUNT)) {
                return false;
            }
            if (state.rods + value > MAX_TEXT_RODS) {
                return fail(TOO_MANY);
            }
            for (int i = 0; i < value; i++) {
                state.enterRod(kind, plan.kindLength[kind]);
            }
            return true;
        }

        private boolean readOrder() {
            if (state.orders >= MAX_TEXT_ORDERS) {
                return fail(TOO_MANY);
            }
            if (!readNumber(1, MAX_LENGTH)) {
                return false;
            }
            int length = value;
            if (!readNumber(1, MAX_COUNT)) {
                return false;
            }
            int count = value;
            if (!readNumber(0, MAX_VALUE)) {
                return false;
            }
            int worth = value;
            if (!readNumber(0, MAX_TEXT_DUE)) {
                return false;
            }
            state.enterOrder(length, count, worth, value);
            return true;
        }

        private boolean readPattern() {
            if (plan.patterns >= MAX_PATTERNS) {
                return fail(TOO_MANY);
            }
            plan.enterPattern();
            if (!readNumber(1, MAX_LENGTH)) {
                return false;
            }
            plan.extendLastPattern(value);
            for (int size = 1; size <= MAX_PATTERN_SIZE && digitFollows(); size++) {
                if (!readNumber(1, MAX_LENGTH)) {
                    return false;
                }
                if (size == MAX_PATTERN_SIZE) {
                    return fail(TOO_MANY);
                }
                plan.extendLastPattern(value);
            }
            return true;
        }

        private boolean readWord(String word) {
            nextToken();
            return isWord(word) || fail(SYNTAX);
        }

        private boolean readNumber(int least, int greatest) {
            nextToken();
            if (type != NUMBER) {
                return fail(SYNTAX);
            }
            return value >= least && value <= greatest || fail(BOUNDS);
        }

        private boolean fail(int code) {
            error = code;
            return false;
        }

        private boolean isWord(String word) {
            if (type != WORD || at - start != word.length()) {
                return false;
            }
            for (int i = 0; i < word.length(); i++) {
                if (bytes[start + i] != word.charAt(i)) {
                    return false;
                }
            }
            return true;
        }

        private void nextToken() {
            skipBlanks();
            start = at;
            if (at >= end) {
                type = END;
            } else if (isLetter(bytes[at])) {
                takeWord();
            } else if (isDigit(bytes[at])) {
                takeNumber();
            } else {
                type = bytes[at] == ';' ? SEMICOLON : BAD;
                at++;
            }
        }

        private boolean digitFollows() {
            skipBlanks();
            return at < end && isDigit(bytes[at]);
        }

        private void skipBlanks() {
            while (at < end && bytes[at] == ' ') {
                at++;
            }
        }

        private void takeWord() {
            while (at < end && isLetter(bytes[at])) {
                at++;
            }
            type = at - start <= MAX_LETTERS ? WORD : BAD;
        }

        private void takeNumber() {
            value = 0;
            while (at < end && isDigit(bytes[at])) {
                value = value * 10 + bytes[at] - '0';
                at++;
            }
            type = at - start <= MAX_DIGITS ? NUMBER : BAD;
        }

        private static boolean isLetter(byte b) {
            return b >= 'a' && b <= 'z';
        }

        private static boolean isDigit(byte b) {
            return b >= '0' && b <= '9';
        }
    }

    /** The text that was written last. */
    private static final class Text {
        private static final int ROD_SIGNS = 8;
        private static final int GREATEST_POWER = 1000000000;

        final byte[] bytes = new byte[MAX_RODS * ROD_SIGNS];
        int size;

        void putSign(char sign) {
            if (size < bytes.length) {
                bytes[size] = (byte) sign;
                size++;
            }
        }

        void putWord(String word) {
            for (int i = 0; i < word.length(); i++) {
                putSign(word.charAt(i));
            }
        }

        void putNumber(int number) {
            for (int power = GREATEST_POWER; power >= 1; power /= 10) {
                if (power == 1 || number >= power) {
                    putSign((char) ('0' + number / power % 10));
                }
            }
        }
    }
}
