import java.util.ArrayDeque;
import java.util.ArrayList;
import java.util.Arrays;
import java.util.Deque;
import java.util.HashMap;
import java.util.List;
import java.util.Map;

/**
 * The document once more, as slowly and literally as can be: every trial goes step by step on a copy of the boat, every
 * pull is tried. It shares no idea with the class but the words, so that both can be held against each other.
 */
final class Model {
    private static final int NONE = -1, UNKNOWN = -1000000001, OUTSIDE = -1000000002, NOT = -1000000003, FULL = -1000000004;

    private static final class Boat {
        int at, from = NONE, pull, wear, went;

        Boat copy() {
            Boat twin = new Boat();
            twin.at = at;
            twin.from = from;
            twin.pull = pull;
            twin.wear = wear;
            twin.went = went;
            return twin;
        }
    }

    private static final class State {
        List<Boat> boats = new ArrayList<>();
        int steps;

        State copy() {
            State twin = new State();
            for (Boat boat : boats) twin.boats.add(boat.copy());
            twin.steps = steps;
            return twin;
        }
    }

    private static final class Fault extends RuntimeException {
        private static final long serialVersionUID = 1;
        final int kind, at;

        Fault(int kind, int at) {
            this.kind = kind;
            this.at = at;
        }
    }

    private record Token(int at, String sign) { }

    private record Parsed(int junctions, List<int[]> cuts, State start) { }

    private final StringBuilder text = new StringBuilder();
    private int faultAt = NONE;
    private int junctions = 0;
    private List<int[]> cuts = new ArrayList<>();
    private State now = new State();
    private final int[] quays = new int[5];
    private final Deque<State> past = new ArrayDeque<>();
    private final State[] images = new State[2];
    private final int[] imageSeeds = new int[2];
    private final List<int[]> seen = new ArrayList<>();
    private final List<int[]> book = new ArrayList<>();
    private int seed = 0;

    Model() {
        Arrays.fill(quays, NONE);
    }

    int feed(int letter) {
        if (letter < 0 || letter > 255) return OUTSIDE;
        if (text.length() == 240) return FULL;
        text.append((char) letter);
        return text.length();
    }

    int water() {
        String told = text.toString();
        text.setLength(0);
        Parsed parsed;
        try {
            parsed = told.replace(" ", "").isEmpty() ? new Parsed(0, new ArrayList<>(), new State()) : parse(told);
        } catch (Fault fault) {
            faultAt = fault.at;
            return -10 - fault.kind;
        }
        faultAt = NONE;
        junctions = parsed.junctions;
        cuts = parsed.cuts;
        now = parsed.start;
        Arrays.fill(quays, NONE);
        Arrays.fill(images, null);
        past.clear();
        seen.clear();
        book.clear();
        return now.boats.size();
    }

    private static List<Token> tokens(String told) {
        List<Token> all = new ArrayList<>();
        int at = 0;
        while (at < told.length()) {
            int end = at + 1;
            if (Character.isDigit(told.charAt(at))) {
                while (end < told.length() && Character.isDigit(told.charAt(end))) end++;
            }
            if (told.charAt(at) != ' ') all.add(new Token(at, told.substring(at, end)));
            at = end;
        }
        all.add(new Token(told.length(), ""));
        return all;
    }

    private static Parsed parse(String told) {
        Deque<Token> rest = new ArrayDeque<>(tokens(told));
        expect(rest, "j");
        int count = number(rest.poll(), 1, 9);
        expect(rest, ";");
        Parsed parsed = new Parsed(count, new ArrayList<>(), new State());
        while (!rest.peek().sign.isEmpty()) {
            Token word = rest.poll();
            switch (word.sign) {
                case "j" -> throw new Fault(3, word.at);
                case "c" -> {
                    if (parsed.cuts.size() == 14) throw new Fault(3, word.at);
                    parsed.cuts.add(parseCut(rest, parsed));
                }
                case "b" -> {
                    if (parsed.start.boats.size() == 5) throw new Fault(3, word.at);
                    parsed.start.boats.add(parseBoat(rest, parsed));
                }
                default -> throw new Fault(1, word.at);
            }
        }
        return parsed;
    }

    private static int[] parseCut(Deque<Token> rest, Parsed parsed) {
        int a = number(rest.poll(), 0, parsed.junctions - 1);
        int at = rest.peek().at;
        int b = number(rest.poll(), 0, parsed.junctions - 1);
        if (a == b) throw new Fault(4, at);
        for (int[] cut : parsed.cuts) {
            if (cut[0] == a && cut[1] == b || cut[0] == b && cut[1] == a) throw new Fault(4, at);
        }
        int hard = number(rest.poll(), 0, 99);
        expect(rest, ";");
        return new int[] {a, b, hard};
    }

    private static Boat parseBoat(Deque<Token> rest, Parsed parsed) {
        Boat boat = new Boat();
        boat.at = number(rest.poll(), 0, parsed.junctions - 1);
        boat.pull = number(rest.poll(), 0, 999);
        boat.wear = number(rest.poll(), 0, 99);
        expect(rest, ";");
        return boat;
    }

    private static void expect(Deque<Token> rest, String sign) {
        Token token = rest.poll();
        if (!token.sign.equals(sign)) throw new Fault(1, token.at);
    }

    private static int number(Token token, int low, int high) {
        if (token.sign.isEmpty() || !Character.isDigit(token.sign.charAt(0))) throw new Fault(1, token.at);
        if (token.sign.length() > 3) throw new Fault(2, token.at);
        int value = Integer.parseInt(token.sign);
        if (value < low || value > high) throw new Fault(2, token.at);
        return value;
    }

    int fault() {
        return faultAt;
    }

    int told(int what) {
        return switch (what) {
            case 0 -> junctions;
            case 1 -> cuts.size();
            case 2 -> now.boats.size();
            case 3 -> text.length();
            case 4 -> now.steps;
            case 5 -> sitting();
            case 6 -> now.boats.stream().mapToInt(boat -> 1 << boat.at).reduce(0, (a, b) -> a | b);
            case 7 -> seen.size();
            case 8 -> book.size();
            case 9 -> past.size();
            default -> OUTSIDE;
        };
    }

    int cut(int c, int what) {
        if (c < 0 || c >= cuts.size()) return UNKNOWN;
        return what < 0 || what > 2 ? OUTSIDE : cuts.get(c)[what];
    }

    int boat(int b, int what) {
        if (unknownBoat(b)) return UNKNOWN;
        Boat boat = now.boats.get(b);
        return switch (what) {
            case 0 -> boat.at;
            case 1 -> boat.from;
            case 2 -> boat.pull;
            case 3 -> boat.wear;
            case 4 -> boat.went;
            case 5 -> quays[b];
            default -> OUTSIDE;
        };
    }

    private boolean unknownBoat(int b) {
        return b < 0 || b >= now.boats.size();
    }

    private boolean unknownJunction(int j) {
        return j < 0 || j >= junctions;
    }

    /** The cut it would go by: hard and whither; null where there is none. */
    private int[] onward(Boat boat) {
        List<int[]> ways = new ArrayList<>();
        for (int[] cut : cuts) {
            int other = cut[0] == boat.at ? cut[1] : cut[1] == boat.at ? cut[0] : NONE;
            if (other != NONE && other != boat.from) ways.add(new int[] {cut[2], other});
        }
        ways.sort((x, y) -> x[0] != y[0] ? Integer.compare(x[0], y[0]) : Integer.compare(x[1], y[1]));
        return ways.isEmpty() ? null : ways.get(0);
    }

    private boolean sitsNow(Boat boat) {
        int[] way = onward(boat);
        return way == null || boat.pull <= way[0];
    }

    private void go(Boat boat) {
        if (sitsNow(boat)) return;
        int[] way = onward(boat);
        boat.from = boat.at;
        boat.at = way[1];
        boat.pull = Math.max(0, boat.pull - boat.wear);
        boat.went++;
    }

    private Boat tried(Boat boat, int n) {
        Boat twin = boat.copy();
        for (int k = 0; k < n; k++) go(twin);
        return twin;
    }

    private int sitting() {
        int set = 0;
        for (int b = 0; b < now.boats.size(); b++) set |= sitsNow(now.boats.get(b)) ? 1 << b : 0;
        return set;
    }

    private void remember() {
        past.push(now.copy());
        if (past.size() > 20) past.removeLast();
    }

    private int refusal(int n) {
        if (n < 1 || n > 60) return OUTSIDE;
        if (junctions == 0) return NOT;
        return now.steps > 9000 ? FULL : 0;
    }

    int step(int n) {
        if (refusal(n) != 0) return refusal(n);
        remember();
        for (int k = 0; k < n; k++) stepAll();
        return sitting();
    }

    private void stepAll() {
        now.boats.forEach(this::go);
        now.steps++;
    }

    int forgive(int b, int much) {
        if (unknownBoat(b)) return UNKNOWN;
        if (much < 1 || much > 999) return OUTSIDE;
        remember();
        Boat boat = now.boats.get(b);
        return boat.pull = Math.max(0, boat.pull - much);
    }

    int weigh(int b, int much) {
        if (unknownBoat(b)) return UNKNOWN;
        if (much < 1 || much > 999) return OUTSIDE;
        remember();
        Boat boat = now.boats.get(b);
        return boat.pull = Math.min(999, boat.pull + much);
    }

    int change(int a, int b) {
        if (unknownBoat(a) || unknownBoat(b) || a == b) return UNKNOWN;
        remember();
        int pull = now.boats.get(a).pull;
        now.boats.get(a).pull = now.boats.get(b).pull;
        now.boats.get(b).pull = pull;
        return now.boats.get(a).pull;
    }

    int turn(int b) {
        if (unknownBoat(b)) return UNKNOWN;
        remember();
        int from = now.boats.get(b).from;
        now.boats.get(b).from = NONE;
        return from;
    }

    private int draw(int n) {
        seed = (int) ((seed * 1103515245L + 12345L) % (1L << 31));
        return seed / 65536 % n;
    }

    int drift(int n) {
        if (refusal(n) != 0) return refusal(n);
        remember();
        for (int k = 0; k < n; k++) {
            if (!now.boats.isEmpty()) {
                int kind = draw(4);
                if (kind == 0) {
                    Boat boat = now.boats.get(draw(now.boats.size()));
                    boat.pull = Math.max(0, boat.pull - draw(50));
                } else if (kind == 1) {
                    Boat boat = now.boats.get(draw(now.boats.size()));
                    boat.pull = Math.min(999, boat.pull + draw(50));
                }
            }
            stepAll();
        }
        return sitting();
    }

    int undo() {
        if (past.isEmpty()) return NOT;
        now = past.pop();
        return past.size();
    }

    int quay(int b, int j) {
        if (unknownBoat(b) || j != NONE && unknownJunction(j)) return UNKNOWN;
        int before = quays[b];
        quays[b] = j;
        return before;
    }

    int where(int b, int n, int what) {
        if (unknownBoat(b)) return UNKNOWN;
        if (n < 0 || n > 60 || what < 0 || what > 1) return OUTSIDE;
        Boat end = tried(now.boats.get(b), n);
        return what == 0 ? end.at : end.pull;
    }

    private int firstSat(Boat boat) {
        Boat twin = boat.copy();
        for (int k = 0; k <= 200; k++) {
            if (sitsNow(twin)) return k;
            go(twin);
        }
        return NONE;
    }

    int sits(int b) {
        return unknownBoat(b) ? UNKNOWN : firstSat(now.boats.get(b));
    }

    int round(int b) {
        if (unknownBoat(b)) return UNKNOWN;
        Boat twin = now.boats.get(b).copy();
        twin.wear = 0;
        Map<String, Integer> met = new HashMap<>();
        for (int k = 0; ; k++) {
            Integer before = met.put(twin.at + " " + twin.from, k);
            if (before != null) return k - before;
            if (sitsNow(twin)) return NONE;
            go(twin);
        }
    }

    int least(int b, int j, int what) {
        if (unknownBoat(b) || unknownJunction(j)) return UNKNOWN;
        if (what < 0 || what > 1) return OUTSIDE;
        int pull = now.boats.get(b).pull;
        for (int much = 0; much <= (what == 0 ? pull : 999 - pull); much++) {
            Boat twin = now.boats.get(b).copy();
            twin.pull = what == 0 ? pull - much : pull + much;
            int sat = firstSat(twin);
            if (sat != NONE && tried(twin, sat).at == j) return much;
        }
        return NONE;
    }

    int changes(int n, int b) {
        if (b != NONE && unknownBoat(b)) return UNKNOWN;
        if (n < 0 || n > 60) return OUTSIDE;
        List<int[]> orders = new ArrayList<>();
        collectOrders(new ArrayList<>(), orders);
        int[] best = null;
        for (int[] order : orders) {
            if (!allAtQuays(order, n)) continue;
            if (best == null || cost(order) < cost(best)) best = order;
        }
        if (best == null) return NONE;
        return b == NONE ? cost(best) : best[b];
    }

    private void collectOrders(List<Integer> begun, List<int[]> into) {
        if (begun.size() == now.boats.size()) {
            into.add(begun.stream().mapToInt(Integer::intValue).toArray());
            return;
        }
        for (int giver = 0; giver < now.boats.size(); giver++) {
            if (begun.contains(giver)) continue;
            begun.add(giver);
            collectOrders(begun, into);
            begun.remove(begun.size() - 1);
        }
    }

    private boolean allAtQuays(int[] order, int n) {
        for (int b = 0; b < order.length; b++) {
            Boat twin = now.boats.get(b).copy();
            twin.pull = now.boats.get(order[b]).pull;
            if (quays[b] != NONE && tried(twin, n).at != quays[b]) return false;
        }
        return true;
    }

    /** Boats that get another one's, 1 less for each ring of these: a ring is counted at its least boat. */
    private static int cost(int[] order) {
        int cost = 0;
        for (int b = 0; b < order.length; b++) {
            if (order[b] == b) continue;
            cost++;
            boolean least = true;
            for (int other = order[b]; other != b; other = order[other]) least &= other > b;
            if (least) cost--;
        }
        return cost;
    }

    int dry(int n) {
        if (n < 0 || n > 60) return OUTSIDE;
        int set = 0;
        for (int j = 0; j < junctions; j++) set |= 1 << j;
        for (Boat boat : now.boats) {
            for (int k = 0; k <= n; k++) set &= ~(1 << tried(boat, k).at);
        }
        return set;
    }

    int towed(int b) {
        if (unknownBoat(b)) return UNKNOWN;
        int all = now.boats.stream().mapToInt(boat -> boat.pull).sum();
        return all == 0 ? 0 : 1000 * now.boats.get(b).pull / all;
    }

    int mercy(int n, int q) {
        if (n < 0 || n > 60 || q < 0 || q > 100) return OUTSIDE;
        long odds = 1000000000;
        for (int k = 0; k < n; k++) odds = odds * (100 - q) / 100;
        return (int) odds;
    }

    int see(int b, int n, int j) {
        if (unknownBoat(b) || unknownJunction(j)) return UNKNOWN;
        if (n < 0 || n > 30) return OUTSIDE;
        if (seen.size() == 6) return FULL;
        seen.add(new int[] {b, n, j});
        return seen.size();
    }

    private Boat sentOff(int b, int pull) {
        Boat twin = now.boats.get(b).copy();
        twin.from = NONE;
        twin.pull = pull;
        return twin;
    }

    private List<Integer> fitting(int b) {
        List<Integer> all = new ArrayList<>();
        for (int pull = 0; pull <= 999; pull++) {
            boolean fits = true;
            for (int[] entry : seen) {
                if (entry[0] == b && tried(sentOff(b, pull), entry[1]).at != entry[2]) fits = false;
            }
            if (fits) all.add(pull);
        }
        return all;
    }

    int left(int b, int i) {
        if (unknownBoat(b)) return UNKNOWN;
        List<Integer> all = fitting(b);
        if (i == NONE) return all.size();
        return i < 0 || i >= all.size() ? NONE : all.get(i);
    }

    int look(int b) {
        if (unknownBoat(b)) return UNKNOWN;
        List<Integer> all = fitting(b);
        int best = NONE;
        int least = all.size();
        for (int n = 1; n <= 30; n++) {
            int[] parts = new int[9];
            for (int pull : all) parts[tried(sentOff(b, pull), n).at]++;
            int greatest = Arrays.stream(parts).max().getAsInt();
            if (greatest < least) {
                least = greatest;
                best = n;
            }
        }
        return best;
    }

    int write(int b, int j) {
        if (unknownBoat(b) || unknownJunction(j)) return UNKNOWN;
        if (book.size() == 15) return FULL;
        book.add(new int[] {b, j});
        return book.size();
    }

    int tear() {
        int both = seen.size() + book.size();
        seen.clear();
        book.clear();
        return both;
    }

    int judge() {
        for (int e = 0; e < book.size(); e++) {
            if (now.boats.get(book.get(e)[0]).at != book.get(e)[1]) return e;
        }
        return NONE;
    }

    int seed(int v) {
        if (v < 0) return OUTSIDE;
        int before = seed;
        seed = v;
        return before;
    }

    int keep(int i) {
        if (i < 0 || i > 1) return UNKNOWN;
        images[i] = now.copy();
        imageSeeds[i] = seed;
        past.clear();
        return 1;
    }

    int goBack(int i) {
        if (i < 0 || i > 1) return UNKNOWN;
        if (images[i] == null) return NOT;
        now = images[i].copy();
        seed = imageSeeds[i];
        past.clear();
        return 1;
    }
}
