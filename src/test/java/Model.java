import java.util.ArrayDeque;
import java.util.ArrayList;
import java.util.Arrays;
import java.util.Deque;
import java.util.HashMap;
import java.util.List;
import java.util.Map;
import java.util.TreeMap;
import java.util.regex.Matcher;
import java.util.regex.Pattern;

/**
 * A second yard, written as plainly as the document reads, with lists and copies of everything. It knows right calls
 * alone: where a call of RodYard is to throw, it answers the exception's class instead of a number.
 */
final class Model {
    static final class Rod {
        int kind;
        int length;
        int state;
        int pieces;
        boolean cut;

        Rod copy() {
            Rod r = new Rod();
            r.kind = kind;
            r.length = length;
            r.state = state;
            r.pieces = pieces;
            r.cut = cut;
            return r;
        }
    }

    static final class Order {
        int length;
        int count;
        int value;
        int due;
        int inTime;
        int late;
        boolean gone;

        int lacking() {
            return gone ? 0 : count - inTime - late;
        }

        Order copy() {
            Order o = new Order();
            o.length = length;
            o.count = count;
            o.value = value;
            o.due = due;
            o.inTime = inTime;
            o.late = late;
            o.gone = gone;
            return o;
        }
    }

    static final class State {
        int round;
        int kerf;
        int keep;
        List<Rod> rods = new ArrayList<>();
        List<Order> orders = new ArrayList<>();
        List<Integer> store = new ArrayList<>();
        List<int[]> log = new ArrayList<>();
        int bought;
        int kerfUnits;
        int scrapUnits;
        int lossCost;
        int earned;
        int pieces;
        int latePieces;
        int pieceUnits;

        State copy() {
            State s = new State();
            s.round = round;
            s.kerf = kerf;
            s.keep = keep;
            rods.forEach(r -> s.rods.add(r.copy()));
            orders.forEach(o -> s.orders.add(o.copy()));
            s.store.addAll(store);
            s.log.addAll(log);
            s.bought = bought;
            s.kerfUnits = kerfUnits;
            s.scrapUnits = scrapUnits;
            s.lossCost = lossCost;
            s.earned = earned;
            s.pieces = pieces;
            s.latePieces = latePieces;
            s.pieceUnits = pieceUnits;
            return s;
        }
    }

    private static final class Wrong extends RuntimeException {
        private static final long serialVersionUID = 1;
        final int code;
        final int position;

        Wrong(int code, int position) {
            this.code = code;
            this.position = position;
        }
    }

    List<int[]> kinds;
    List<int[]> patterns;
    State now;
    private final Deque<State> past = new ArrayDeque<>();
    private final State[] slots = new State[2];
    int parseError;
    int errorPosition = -1;
    int errorLine = -1;
    String text = "";

    // ---- texts

    /** Answers the number of rods, or IllegalArgumentException. */
    Object load(String source) {
        List<int[]> oldKinds = kinds;
        List<int[]> oldPatterns = patterns;
        State oldState = now;
        try {
            new Reader(source).readAll();
        } catch (Wrong e) {
            kinds = oldKinds;
            patterns = oldPatterns;
            now = oldState;
            parseError = e.code;
            errorPosition = e.position;
            errorLine = (int) source.substring(0, e.position).chars().filter(c -> c == ';').count();
            return IllegalArgumentException.class;
        }
        parseError = 0;
        errorPosition = -1;
        errorLine = -1;
        past.clear();
        slots[0] = null;
        slots[1] = null;
        return now.rods.size();
    }

    private final class Reader {
        private final List<String> tokens = new ArrayList<>();
        private final List<Integer> starts = new ArrayList<>();
        private int next;

        Reader(String source) {
            Matcher m = Pattern.compile("[a-z]+|[0-9]+|;|[^ ]", Pattern.DOTALL).matcher(source);
            while (m.find()) {
                tokens.add(m.group());
                starts.add(m.start());
            }
            tokens.add("");
            starts.add(source.length());
        }

        private Wrong wrong(int code, int token) {
            return new Wrong(code, starts.get(token));
        }

        private void word(String due) {
            if (!tokens.get(next).equals(due)) {
                throw wrong(1, next);
            }
            next++;
        }

        private int number(int low, int high) {
            if (!tokens.get(next).matches("[0-9]{1,3}")) {
                throw wrong(1, next);
            }
            int value = Integer.parseInt(tokens.get(next));
            if (value < low || value > high) {
                throw wrong(2, next);
            }
            next++;
            return value;
        }

        void readAll() {
            kinds = new ArrayList<>();
            patterns = new ArrayList<>();
            now = new State();
            word("yard");
            word("kerf");
            now.kerf = number(0, 9);
            word("keep");
            now.keep = number(1, 200);
            while (!tokens.get(next).isEmpty()) {
                word(";");
                line();
            }
        }

        private void line() {
            String first = tokens.get(next);
            int limit = first.equals("kind") ? 4 - kinds.size() : first.equals("order") ? 12 - now.orders.size()
                    : first.equals("pattern") ? 6 - patterns.size() : first.equals("rods") ? 1 : -1;
            if (limit < 0) {
                throw wrong(1, next);
            }
            if (limit == 0) {
                throw wrong(4, next);
            }
            next++;
            if (first.equals("kind")) {
                int[] kind = {number(1, 200), number(1, 99)};
                if (kinds.stream().anyMatch(k -> Arrays.equals(k, kind))) {
                    throw wrong(3, next - 1);
                }
                kinds.add(kind);
            } else if (first.equals("rods")) {
                int kind = number(0, kinds.size() - 1);
                int count = number(1, 9);
                if (now.rods.size() + count > 24) {
                    throw wrong(4, next - 1);
                }
                for (int i = 0; i < count; i++) {
                    addRod(kind);
                }
            } else if (first.equals("order")) {
                newOrder(number(1, 200), number(1, 9), number(0, 99), number(0, 99));
            } else {
                List<Integer> lengths = new ArrayList<>();
                lengths.add(number(1, 200));
                while (!tokens.get(next).isEmpty() && !tokens.get(next).equals(";")) {
                    lengths.add(number(1, 200));
                    if (lengths.size() > 6) {
                        throw wrong(4, next - 1);
                    }
                }
                patterns.add(lengths.stream().mapToInt(i -> i).toArray());
            }
        }
    }

    // ---- work

    private int addRod(int kind) {
        Rod r = new Rod();
        r.kind = kind;
        r.length = kinds.get(kind)[0];
        now.rods.add(r);
        return now.rods.size() - 1;
    }

    private int newOrder(int length, int count, int value, int due) {
        Order o = new Order();
        o.length = length;
        o.count = count;
        o.value = value;
        o.due = due;
        now.orders.add(o);
        while (o.lacking() > 0 && now.store.remove((Integer) length)) {
            give(o);
        }
        return now.orders.size() - 1;
    }

    private void give(Order o) {
        if (now.round <= o.due) {
            o.inTime++;
            now.earned += o.value;
        } else {
            o.late++;
            now.latePieces++;
            now.earned += o.value / 2;
        }
    }

    private void lose(Rod r, int units) {
        r.length -= units;
        now.lossCost += units * kinds.get(r.kind)[1];
    }

    private boolean canCut(int rod, int length) {
        Rod r = now.rods.get(rod);
        return r.state == 0 && r.length >= length;
    }

    private int cutNow(int rod, int length) {
        Rod r = now.rods.get(rod);
        r.length -= length;
        int lost = Math.min(now.kerf, r.length);
        lose(r, lost);
        now.kerfUnits += lost;
        r.pieces++;
        r.cut = true;
        if (r.length == 0) {
            r.state = 1;
        }
        now.pieces++;
        now.pieceUnits += length;
        int taker = -1;
        for (int due = 0; due <= 999 && taker < 0; due++) {
            for (int o = 0; o < now.orders.size() && taker < 0; o++) {
                Order order = now.orders.get(o);
                if (order.lacking() > 0 && order.length == length && order.due == due) {
                    taker = o;
                }
            }
        }
        if (taker < 0) {
            now.store.add(length);
        } else {
            give(now.orders.get(taker));
        }
        if (now.log.size() < 60) {
            now.log.add(new int[] {now.round, rod, length, taker});
        }
        return taker;
    }

    private int scrapNow(Rod r) {
        int lost = r.length;
        lose(r, lost);
        now.scrapUnits += lost;
        r.state = 2;
        return lost;
    }

    private int endRoundNow() {
        int lost = 0;
        for (Rod r : now.rods) {
            if (r.state == 0 && r.cut && r.length < now.keep) {
                lost += scrapNow(r);
            }
            r.cut = false;
        }
        now.round++;
        return lost;
    }

    int lacking() {
        return now.orders.stream().mapToInt(Order::lacking).sum();
    }

    int wanted(int length) {
        return now.orders.stream().filter(o -> o.length == length).mapToInt(Order::lacking).sum();
    }

    int rodFor(int length, int policy) {
        List<Integer> able = new ArrayList<>();
        for (int r = 0; r < now.rods.size(); r++) {
            if (canCut(r, length)) {
                able.add(r);
            }
        }
        if (policy > 0) {
            // The sort is stable: of several the smallest number stays first.
            int sign = policy == 1 ? 1 : -1;
            able.sort((a, b) -> sign * Integer.compare(now.rods.get(a).length, now.rods.get(b).length));
        }
        return able.isEmpty() ? -1 : able.get(0);
    }

    int patternLeft(int pattern, int rod) {
        Rod r = now.rods.get(rod);
        int length = r.state == 0 ? r.length : -1;
        for (int piece : patterns.get(pattern)) {
            if (length < piece) {
                return -1;
            }
            length -= piece;
            length -= Math.min(length, now.kerf);
        }
        return length;
    }

    int patternRod(int pattern) {
        int best = -1;
        for (int r = now.rods.size() - 1; r >= 0; r--) {
            if (patternLeft(pattern, r) >= 0 && (best < 0 || now.rods.get(r).length <= now.rods.get(best).length)) {
                best = r;
            }
        }
        return best;
    }

    boolean isWanted(int pattern) {
        Map<Integer, Integer> times = new TreeMap<>();
        for (int length : patterns.get(pattern)) {
            times.merge(length, 1, Integer::sum);
        }
        return times.entrySet().stream().allMatch(e -> e.getValue() <= wanted(e.getKey()));
    }

    private int fillNow(int policy) {
        int ahead = now.pieces;
        if (policy == 3) {
            for (int p = 0; p < patterns.size(); p++) {
                while (isWanted(p) && patternRod(p) >= 0) {
                    int rod = patternRod(p);
                    for (int length : patterns.get(p)) {
                        cutNow(rod, length);
                    }
                }
            }
            fillNow(1);
            return now.pieces - ahead;
        }
        while (true) {
            Order next = null;
            for (Order o : now.orders) {
                if (o.lacking() > 0 && rodFor(o.length, policy) >= 0 && (next == null
                        || (policy == 0 ? o.due < next.due : o.length > next.length))) {
                    next = o;
                }
            }
            if (next == null) {
                return now.pieces - ahead;
            }
            cutNow(rodFor(next.length, policy), next.length);
        }
    }

    // ---- what-if questions

    int[] ifFilled(int policy) {
        State real = now;
        now = real.copy();
        int pieces = fillNow(policy);
        int[] answer = new int[2 + now.orders.size()];
        for (int o = 0; o < now.orders.size(); o++) {
            answer[2 + o] = now.orders.get(o).lacking();
        }
        endRoundNow();
        answer[0] = pieces;
        answer[1] = now.lossCost - real.lossCost;
        now = real;
        return answer;
    }

    int bestPolicy() {
        int best = 3;
        for (int policy = 2; policy >= 0; policy--) {
            int[] a = ifFilled(policy);
            int[] b = ifFilled(best);
            if (a[0] > b[0] || a[0] == b[0] && a[1] <= b[1]) {
                best = policy;
            }
        }
        return best;
    }

    int rodsNeeded(int kind) {
        State real = now;
        int answer = -1;
        for (int n = 12; n >= 0; n--) {
            now = real.copy();
            for (int i = 0; i < n; i++) {
                addRod(kind);
            }
            fillNow(1);
            if (lacking() == 0) {
                answer = n;
            }
        }
        now = real;
        return answer;
    }

    int cheapestKind() {
        int best = -1;
        int least = Integer.MAX_VALUE;
        for (int k = 0; k < kinds.size(); k++) {
            int n = rodsNeeded(k);
            if (n >= 0 && n * kinds.get(k)[0] * kinds.get(k)[1] < least) {
                best = k;
                least = n * kinds.get(k)[0] * kinds.get(k)[1];
            }
        }
        return best;
    }

    int roundsToFill(int kind) {
        State real = now;
        now = real.copy();
        int ended = 0;
        fillNow(1);
        while (lacking() > 0 && ended < 40) {
            addRod(kind);
            endRoundNow();
            ended++;
            fillNow(1);
        }
        int answer = lacking() > 0 ? -1 : ended;
        now = real;
        return answer;
    }

    /** Tries wanted pieces in any order: the least length, and the fewest pieces for it. */
    int[] best(int rod) {
        TreeMap<Integer, Integer> open = new TreeMap<>();
        for (Order o : now.orders) {
            if (o.lacking() > 0) {
                open.merge(o.length, o.lacking(), Integer::sum);
            }
        }
        return best(now.rods.get(rod).length, open, new HashMap<>());
    }

    private int[] best(int length, TreeMap<Integer, Integer> open, Map<String, int[]> known) {
        String key = length + " " + open;
        int[] found = known.get(key);
        if (found != null) {
            return found;
        }
        int[] best = {length, 0};
        for (int piece : new ArrayList<>(open.keySet())) {
            if (open.get(piece) > 0 && piece <= length) {
                open.merge(piece, -1, Integer::sum);
                int[] rest = best(Math.max(0, length - piece - now.kerf), open, known);
                open.merge(piece, 1, Integer::sum);
                if (rest[0] < best[0] || rest[0] == best[0] && rest[1] + 1 < best[1]) {
                    best = new int[] {rest[0], rest[1] + 1};
                }
            }
        }
        known.put(key, best);
        return best;
    }

    // ---- changes: each answers a number or the class of the exception that is due

    private void keep() {
        past.addLast(now.copy());
        if (past.size() > 8) {
            past.removeFirst();
        }
    }

    private static boolean in(int value, int low, int high) {
        return value >= low && value <= high;
    }

    private boolean isRod(int rod) {
        return in(rod, 0, now.rods.size() - 1);
    }

    Object cutPiece(int rod, int length) {
        if (!isRod(rod)) {
            return Check.INDEX;
        }
        if (!in(length, 1, 200) || !canCut(rod, length)) {
            return Check.ARGUMENT;
        }
        keep();
        return cutNow(rod, length);
    }

    Object cutPattern(int pattern, int rod) {
        if (!isRod(rod) || !in(pattern, 0, patterns.size() - 1)) {
            return Check.INDEX;
        }
        if (patternLeft(pattern, rod) < 0) {
            return Check.ARGUMENT;
        }
        keep();
        int stored = now.store.size();
        for (int length : patterns.get(pattern)) {
            cutNow(rod, length);
        }
        return now.store.size() - stored;
    }

    Object fill(int policy) {
        if (!in(policy, 0, 3)) {
            return Check.ARGUMENT;
        }
        keep();
        return fillNow(policy);
    }

    Object endRound() {
        keep();
        return endRoundNow();
    }

    Object buy(int kind) {
        if (!in(kind, 0, kinds.size() - 1)) {
            return Check.INDEX;
        }
        if (now.rods.size() >= 40) {
            return Check.ARGUMENT;
        }
        keep();
        now.bought += kinds.get(kind)[0] * kinds.get(kind)[1];
        return addRod(kind);
    }

    Object addOrder(int length, int count, int value, int due) {
        if (now.orders.size() >= 16 || !in(length, 1, 200) || !in(count, 1, 9) || !in(value, 0, 99)
                || !in(due, 0, 999)) {
            return Check.ARGUMENT;
        }
        keep();
        return newOrder(length, count, value, due);
    }

    Object cancel(int order) {
        if (!in(order, 0, now.orders.size() - 1)) {
            return Check.INDEX;
        }
        int lacking = now.orders.get(order).lacking();
        if (lacking == 0) {
            return Check.ARGUMENT;
        }
        keep();
        now.orders.get(order).gone = true;
        return lacking;
    }

    Object scrap(int rod) {
        if (!isRod(rod)) {
            return Check.INDEX;
        }
        if (now.rods.get(rod).state != 0) {
            return Check.ARGUMENT;
        }
        keep();
        return scrapNow(now.rods.get(rod));
    }

    Object setSetting(int what, int value) {
        if (!in(what, 0, 1) || !in(value, what, what == 0 ? 9 : 200)) {
            return Check.ARGUMENT;
        }
        keep();
        int old = what == 0 ? now.kerf : now.keep;
        if (what == 0) {
            now.kerf = value;
        } else {
            now.keep = value;
        }
        return old;
    }

    Object undo() {
        if (past.isEmpty()) {
            return Check.STATE;
        }
        now = past.removeLast();
        return past.size();
    }

    int undoable() {
        return past.size();
    }

    Object save(int slot) {
        if (!in(slot, 0, 1)) {
            return Check.INDEX;
        }
        slots[slot] = now.copy();
        return now.round;
    }

    Object restore(int slot) {
        if (!in(slot, 0, 1)) {
            return Check.INDEX;
        }
        if (slots[slot] == null) {
            return Check.STATE;
        }
        now = slots[slot].copy();
        past.clear();
        return now.round;
    }

    // ---- texts

    int writeRods() {
        List<String> parts = new ArrayList<>();
        for (int r = 0; r < now.rods.size(); r++) {
            Rod rod = now.rods.get(r);
            if (rod.state == 0) {
                parts.add(r + ":" + rod.length + (rod.cut ? "*" : ""));
            }
        }
        text = parts.isEmpty() ? "-" : String.join(",", parts);
        return text.length();
    }

    int writeOrder(int order) {
        Order o = now.orders.get(order);
        text = o.length + "x" + o.count + " " + o.inTime + "+" + o.late + "/" + o.lacking() + " d" + o.due
                + (o.gone ? " gone" : "");
        return text.length();
    }

    /** The same text as ChangeTest.all makes of a RodYard. */
    String all() {
        StringBuilder out = new StringBuilder();
        out.append(now.round).append(' ').append(now.kerf).append(' ').append(now.keep).append('\n');
        for (Rod r : now.rods) {
            out.append(r.kind).append(' ').append(r.length).append(' ').append(r.state).append(' ').append(r.pieces)
                    .append(' ').append(r.cut ? 1 : 0).append(' ');
        }
        out.append('\n');
        for (Order o : now.orders) {
            out.append(o.length).append(' ').append(o.count).append(' ').append(o.value).append(' ').append(o.due)
                    .append(' ').append(o.lacking()).append(' ').append(o.inTime).append(' ').append(o.late)
                    .append(' ').append(o.gone ? 1 : 0).append(' ');
        }
        out.append('\n');
        TreeMap<Integer, Integer> stored = new TreeMap<>();
        now.store.forEach(length -> stored.merge(length, 1, Integer::sum));
        stored.forEach((length, times) -> out.append(length).append('x').append(times).append(' '));
        out.append('\n');
        for (int[] cut : now.log) {
            for (int part : cut) {
                out.append(part).append(' ');
            }
        }
        out.append('\n');
        int[] accounts = {now.bought, now.kerfUnits, now.scrapUnits, now.lossCost, now.earned, now.pieces,
            now.latePieces, now.pieceUnits};
        for (int account : accounts) {
            out.append(account).append(' ');
        }
        return out.toString();
    }
}
