/** Boats without a horse, each towed by what it leaves behind; ../shared/DOC.md says what each call promises. */
public final class TowedBack {
    public static final int NONE = -1, UNKNOWN = -1000000001, OUTSIDE = -1000000002, NOT = -1000000003, FULL = -1000000004;

    private static final int MOST_LETTERS = 240, MOST_JUNCTIONS = 9, MOST_CUTS = 14, MOST_BOATS = 5;
    private static final int MOST_PULL = 999, MOST_HARD = 99, MOST_WEAR = 99;
    // More than any pull: what it would take to go on where nothing leads on.
    private static final int NEVER = 1000;
    private static final int MOST_STEPS = 60, MOST_COUNTED = 9000, LONG_RUN = 200, MOST_SEEN_STEPS = 30;
    private static final int MOST_SEEN = 6, MOST_BOOK = 15, MOST_PAST = 20, IMAGES = 2;
    private static final int BILLION = 1000000000;
    // 14 cuts are 28 ways to come to a junction: behind so many steps a boat that does not wear is on its ring.
    private static final int ON_RING = 40, RING_RUN = 100;

    private final int[] letters = new int[MOST_LETTERS];
    private int lettersFed = 0;
    private int faultAt = NONE;
    private final Reader reader = new Reader();
    private Water here = new Water();
    private Water spare = new Water();
    private final Fleet fleet = new Fleet();
    private final int[] quays = new int[MOST_BOATS];
    private final Past past = new Past();
    private final Images images = new Images();
    private final Draws draws = new Draws();
    private final Entries seen = new Entries(MOST_SEEN);
    private final Entries book = new Entries(MOST_BOOK);
    private final Way way = new Way();
    private final Bands bands = new Bands();
    private final Exchange exchange = new Exchange();

    public TowedBack() {
        forgetQuays();
    }

    // ---- the water

    public int feed(int letter) {
        if (letter < 0 || letter > 255) return OUTSIDE;
        if (lettersFed < 0 || lettersFed >= MOST_LETTERS) return FULL;
        letters[lettersFed] = letter;
        lettersFed++;
        return lettersFed;
    }

    public int water() {
        reader.readText(letters, lettersFed, spare);
        lettersFed = 0;
        faultAt = reader.faultAt;
        if (reader.faultKind != 0) return -10 - reader.faultKind;
        Water gone = here;
        here = spare;
        spare = gone;
        beginAnew();
        return here.boats;
    }

    public int fault() {
        return faultAt;
    }

    public int told(int what) {
        switch (what) {
            case 0: return here.junctions;
            case 1: return here.cuts;
            case 2: return here.boats;
            case 3: return lettersFed;
            case 4: return fleet.stepsGone();
            case 5: return fleet.sitting(here);
            case 6: return fleet.places(here);
            case 7: return seen.count;
            case 8: return book.count;
            case 9: return past.count;
            default: return OUTSIDE;
        }
    }

    public int cut(int c, int what) {
        if (!here.hasCut(c)) return UNKNOWN;
        switch (what) {
            case 0: return here.cutA[c];
            case 1: return here.cutB[c];
            case 2: return here.cutHard[c];
            default: return OUTSIDE;
        }
    }

    public int boat(int b, int what) {
        if (!here.hasBoat(b)) return UNKNOWN;
        switch (what) {
            case 0: return fleet.at(b);
            case 1: return fleet.from(b);
            case 2: return fleet.pull(b);
            case 3: return here.wearOf(b);
            case 4: return fleet.went(b);
            case 5: return quays[b];
            default: return OUTSIDE;
        }
    }

    // ---- what is done

    public int step(int n) {
        int refusal = refusalToGo(n);
        if (refusal != 0) return refusal;
        past.remember(fleet);
        for (int k = 0; k < n; k++) fleet.advanceAll(here);
        return fleet.sitting(here);
    }

    public int forgive(int b, int much) {
        if (!here.hasBoat(b)) return UNKNOWN;
        if (much < 1 || much > MOST_PULL) return OUTSIDE;
        past.remember(fleet);
        fleet.lighten(b, much);
        return fleet.pull(b);
    }

    public int weigh(int b, int much) {
        if (!here.hasBoat(b)) return UNKNOWN;
        if (much < 1 || much > MOST_PULL) return OUTSIDE;
        past.remember(fleet);
        fleet.load(b, much);
        return fleet.pull(b);
    }

    public int change(int a, int b) {
        if (!here.hasBoat(a) || !here.hasBoat(b) || a == b) return UNKNOWN;
        past.remember(fleet);
        fleet.swapPulls(a, b);
        return fleet.pull(a);
    }

    public int turn(int b) {
        if (!here.hasBoat(b)) return UNKNOWN;
        past.remember(fleet);
        int from = fleet.from(b);
        fleet.comeFromNowhere(b);
        return from;
    }

    public int drift(int n) {
        int refusal = refusalToGo(n);
        if (refusal != 0) return refusal;
        past.remember(fleet);
        for (int k = 0; k < n; k++) {
            if (here.boats > 0) drawMonth();
            fleet.advanceAll(here);
        }
        return fleet.sitting(here);
    }

    public int undo() {
        if (past.count < 1) return NOT;
        past.bringBack(fleet);
        return past.count;
    }

    public int quay(int b, int j) {
        if (!here.hasBoat(b) || j != NONE && !here.hasJunction(j)) return UNKNOWN;
        int before = quays[b];
        quays[b] = j;
        return before;
    }

    // ---- tried

    public int where(int b, int n, int what) {
        if (!here.hasBoat(b)) return UNKNOWN;
        if (n < 0 || n > MOST_STEPS || what < 0 || what > 1) return OUTSIDE;
        layWay(b, n);
        int gone = way.gone(fleet.pull(b), n);
        if (what == 0) return way.place(gone);
        return Math.max(0, fleet.pull(b) - gone * here.wearOf(b));
    }

    public int sits(int b) {
        if (!here.hasBoat(b)) return UNKNOWN;
        layWay(b, LONG_RUN + 1);
        int gone = way.gone(fleet.pull(b), LONG_RUN + 1);
        return gone > LONG_RUN ? NONE : gone;
    }

    public int round(int b) {
        if (!here.hasBoat(b)) return UNKNOWN;
        way.lay(here, fleet.at(b), fleet.from(b), 0, RING_RUN);
        if (way.gone(fleet.pull(b), RING_RUN) < RING_RUN) return NONE;
        return way.ring();
    }

    public int least(int b, int j, int what) {
        if (!here.hasBoat(b) || !here.hasJunction(j)) return UNKNOWN;
        if (what < 0 || what > 1) return OUTSIDE;
        layWay(b, LONG_RUN + 1);
        return what == 0 ? way.leastLess(fleet.pull(b), j) : way.leastMore(fleet.pull(b), j);
    }

    public int changes(int n, int b) {
        if (b != NONE && !here.hasBoat(b)) return UNKNOWN;
        if (n < 0 || n > MOST_STEPS) return OUTSIDE;
        exchange.begin(here.boats);
        for (int taker = 0; taker < here.boats; taker++) tryPulls(taker, n);
        exchange.search();
        return b == NONE ? exchange.fewest : exchange.giverTo(b);
    }

    public int dry(int n) {
        if (n < 0 || n > MOST_STEPS) return OUTSIDE;
        int wet = 0;
        for (int b = 0; b < here.boats; b++) {
            layWay(b, n);
            wet |= way.placesUpTo(way.gone(fleet.pull(b), n));
        }
        return ((1 << here.junctions) - 1) & ~wet;
    }

    public int towed(int b) {
        if (!here.hasBoat(b)) return UNKNOWN;
        int all = 0;
        for (int other = 0; other < here.boats; other++) all += fleet.pull(other);
        return all == 0 ? 0 : fleet.pull(b) * 1000 / all;
    }

    public int mercy(int n, int q) {
        if (n < 0 || n > MOST_STEPS || q < 0 || q > 100) return OUTSIDE;
        long odds = BILLION;
        for (int k = 0; k < n; k++) odds = odds * (100 - q) / 100;
        return (int) odds;
    }

    // ---- what is seen

    public int see(int b, int n, int j) {
        if (!here.hasBoat(b) || !here.hasJunction(j)) return UNKNOWN;
        if (n < 0 || n > MOST_SEEN_STEPS) return OUTSIDE;
        return seen.add(b, n, j) ? seen.count : FULL;
    }

    public int left(int b, int i) {
        if (!here.hasBoat(b)) return UNKNOWN;
        sortPulls(b);
        return i == NONE ? bands.total() : bands.pullAt(i);
    }

    public int look(int b) {
        if (!here.hasBoat(b)) return UNKNOWN;
        sortPulls(b);
        return bands.bestParting(way);
    }

    public int write(int b, int j) {
        if (!here.hasBoat(b) || !here.hasJunction(j)) return UNKNOWN;
        return book.add(b, 0, j) ? book.count : FULL;
    }

    public int tear() {
        int both = seen.count + book.count;
        seen.count = 0;
        book.count = 0;
        return both;
    }

    public int judge() {
        for (int e = 0; e < book.count; e++) {
            if (fleet.at(book.boatIn(e)) != book.junctionIn(e)) return e;
        }
        return NONE;
    }

    // ---- draws, images

    public int seed(int v) {
        if (v < 0) return OUTSIDE;
        int before = draws.value;
        draws.value = v;
        return before;
    }

    public int keep(int i) {
        if (i < 0 || i >= IMAGES) return UNKNOWN;
        images.keepIn(i, fleet, draws);
        past.forget();
        return 1;
    }

    public int goBack(int i) {
        if (i < 0 || i >= IMAGES) return UNKNOWN;
        if (!images.isKept(i)) return NOT;
        images.bringBack(i, fleet, draws);
        past.forget();
        return 1;
    }

    // ---- helpers of the calls

    private void forgetQuays() {
        for (int b = 0; b < MOST_BOATS; b++) quays[b] = NONE;
    }

    private void beginAnew() {
        fleet.launch(here);
        forgetQuays();
        seen.count = 0;
        book.count = 0;
        past.forget();
        images.forget();
    }

    /** The refusal that step() and drift() share; 0: none. */
    private int refusalToGo(int n) {
        if (n < 1 || n > MOST_STEPS) return OUTSIDE;
        if (here.junctions == 0) return NOT;
        return fleet.stepsGone() > MOST_COUNTED ? FULL : 0;
    }

    private void drawMonth() {
        int kind = draws.next(4);
        if (kind > 1) return;
        int b = draws.next(here.boats);
        int much = draws.next(50);
        if (kind == 0) fleet.lighten(b, much);
        else fleet.load(b, much);
    }

    private void layWay(int b, int steps) {
        way.lay(here, fleet.at(b), fleet.from(b), here.wearOf(b), steps);
    }

    private void tryPulls(int taker, int n) {
        layWay(taker, n);
        for (int giver = 0; giver < here.boats; giver++) {
            int end = way.place(way.gone(fleet.pull(giver), n));
            if (quays[taker] == NONE || quays[taker] == end) exchange.allow(taker, giver);
        }
    }

    private void sortPulls(int b) {
        way.lay(here, fleet.at(b), NONE, here.wearOf(b), MOST_SEEN_STEPS);
        bands.sort(way, seen, b);
    }

    /** Junctions, cuts, boats as the text told them, and which cut a boat takes. */
    private static final class Water {
        int junctions = 0, cuts = 0, boats = 0;
        final int[] cutA = new int[MOST_CUTS];
        final int[] cutB = new int[MOST_CUTS];
        final int[] cutHard = new int[MOST_CUTS];
        private final int[] boatAt = new int[MOST_BOATS];
        private final int[] boatPull = new int[MOST_BOATS];
        private final int[] boatWear = new int[MOST_BOATS];
        // By junction and where one comes from: found once, as every step and trial asks for it.
        private final int[] onward = new int[MOST_JUNCTIONS * (MOST_JUNCTIONS + 1)];
        private final int[] onwardHard = new int[MOST_JUNCTIONS * (MOST_JUNCTIONS + 1)];

        void empty() {
            junctions = 0;
            cuts = 0;
            boats = 0;
        }

        boolean hasJunction(int j) {
            return j >= 0 && j < junctions;
        }

        boolean hasCut(int c) {
            return c >= 0 && c < cuts && c < MOST_CUTS;
        }

        boolean hasBoat(int b) {
            return b >= 0 && b < boats && b < MOST_BOATS;
        }

        int startOf(int b) {
            return hasBoat(b) ? boatAt[b] : NONE;
        }

        int startPullOf(int b) {
            return hasBoat(b) ? boatPull[b] : 0;
        }

        int wearOf(int b) {
            return hasBoat(b) ? boatWear[b] : 0;
        }

        boolean joined(int a, int b) {
            for (int c = 0; c < cuts; c++) {
                if (otherEnd(c, a) == b) return true;
            }
            return false;
        }

        void addCut(int a, int b, int hard) {
            if (cuts < 0 || cuts >= MOST_CUTS) return;
            cutA[cuts] = a;
            cutB[cuts] = b;
            cutHard[cuts] = hard;
            cuts++;
        }

        void addBoat(int at, int pull, int wear) {
            if (boats < 0 || boats >= MOST_BOATS) return;
            boatAt[boats] = at;
            boatPull[boats] = pull;
            boatWear[boats] = wear;
            boats++;
        }

        void findOnward() {
            for (int j = 0; j < MOST_JUNCTIONS; j++) {
                for (int from = NONE; from < MOST_JUNCTIONS; from++) findOnwardFrom(j, from);
            }
        }

        private void findOnwardFrom(int j, int from) {
            int best = NONE;
            int hard = NEVER;
            for (int c = 0; c < cuts && c < MOST_CUTS; c++) {
                int other = otherEnd(c, j);
                if (other == NONE || other == from) continue;
                if (cutHard[c] < hard || cutHard[c] == hard && other < best) {
                    best = other;
                    hard = cutHard[c];
                }
            }
            int slot = slotOf(j, from);
            if (slot == NONE) return;
            onward[slot] = best;
            onwardHard[slot] = hard;
        }

        int goesTo(int j, int from) {
            int slot = slotOf(j, from);
            return slot == NONE ? NONE : onward[slot];
        }

        int hardOn(int j, int from) {
            int slot = slotOf(j, from);
            return slot == NONE ? NEVER : onwardHard[slot];
        }

        private int slotOf(int j, int from) {
            if (j < 0 || j >= MOST_JUNCTIONS || from < NONE || from >= MOST_JUNCTIONS) return NONE;
            return j * (MOST_JUNCTIONS + 1) + from + 1;
        }

        private int otherEnd(int c, int j) {
            if (!hasCut(c)) return NONE;
            if (cutA[c] == j) return cutB[c];
            return cutB[c] == j ? cutA[c] : NONE;
        }
    }

    /** Reads a text into a water; the first fault that it meets is the one that counts. */
    private static final class Reader {
        private int[] text = new int[0];
        private int length = 0, place = 0;
        private int numberAt = 0;
        int faultKind = 0, faultAt = NONE;

        void readText(int[] letters, int count, Water into) {
            text = letters;
            length = Math.min(count, letters.length);
            place = 0;
            faultKind = 0;
            faultAt = NONE;
            into.empty();
            // Blanks tell nothing: a text of blanks alone is empty, and wants no 'j'.
            if (goesOn()) readJunctions(into);
            for (int k = 0; k < MOST_LETTERS && goesOn(); k++) readClause(into);
            into.findOnward();
        }

        private void readJunctions(Water into) {
            readSign('j');
            int count = readNumber(1, MOST_JUNCTIONS);
            readSign(';');
            into.junctions = count;
        }

        private boolean goesOn() {
            skipBlanks();
            return faultKind == 0 && place < length;
        }

        private void readClause(Water into) {
            int word = letterHere();
            int wordAt = place;
            place++;
            if (word == 'j') {
                note(3, wordAt);
            } else if (word == 'c') {
                if (into.cuts >= MOST_CUTS) note(3, wordAt);
                readCut(into);
            } else if (word == 'b') {
                if (into.boats >= MOST_BOATS) note(3, wordAt);
                readBoat(into);
            } else {
                note(1, wordAt);
            }
        }

        private void readCut(Water into) {
            int a = readNumber(0, into.junctions - 1);
            int b = readNumber(0, into.junctions - 1);
            if (a == b || into.joined(a, b)) note(4, numberAt);
            int hard = readNumber(0, MOST_HARD);
            readSign(';');
            if (faultKind == 0) into.addCut(a, b, hard);
        }

        private void readBoat(Water into) {
            int at = readNumber(0, into.junctions - 1);
            int pull = readNumber(0, MOST_PULL);
            int wear = readNumber(0, MOST_WEAR);
            readSign(';');
            if (faultKind == 0) into.addBoat(at, pull, wear);
        }

        private void readSign(int sign) {
            if (faultKind != 0) return;
            skipBlanks();
            if (letterHere() != sign) note(1, place);
            place++;
        }

        private int readNumber(int low, int high) {
            if (faultKind != 0) return 0;
            skipBlanks();
            numberAt = place;
            int value = 0;
            for (; place < length && isFigure(letterHere()); place++) {
                // A fourth figure is a fault whatever it says, so the value need not follow it.
                if (place - numberAt < 3) value = value * 10 + letterHere() - '0';
            }
            if (place == numberAt) note(1, numberAt);
            else if (place - numberAt > 3 || value < low || value > high) note(2, numberAt);
            return value;
        }

        private void skipBlanks() {
            for (; place < length && letterHere() == ' '; place++) { }
        }

        private int letterHere() {
            return place >= 0 && place < length && place < text.length ? text[place] : NONE;
        }

        private static boolean isFigure(int letter) {
            return letter >= '0' && letter <= '9';
        }

        private void note(int kind, int at) {
            if (faultKind != 0) return;
            faultKind = kind;
            faultAt = at;
        }
    }

    /** All that a step may change, in one row, so that it can be kept and brought back whole. */
    private static final class Fleet {
        private static final int AT = 0, FROM = MOST_BOATS, PULL = 2 * MOST_BOATS, WENT = 3 * MOST_BOATS;
        private static final int STEPS = 4 * MOST_BOATS, ROW = STEPS + 1;
        final int[] row = new int[ROW];

        private int get(int part, int b) {
            return b >= 0 && b < MOST_BOATS ? row[part + b] : NONE;
        }

        private void put(int part, int b, int value) {
            if (b >= 0 && b < MOST_BOATS) row[part + b] = value;
        }

        int at(int b) {
            return get(AT, b);
        }

        int from(int b) {
            return get(FROM, b);
        }

        int pull(int b) {
            return get(PULL, b);
        }

        int went(int b) {
            return get(WENT, b);
        }

        int stepsGone() {
            return row[STEPS];
        }

        void launch(Water on) {
            for (int b = 0; b < MOST_BOATS; b++) {
                put(AT, b, on.startOf(b));
                put(FROM, b, NONE);
                put(PULL, b, on.startPullOf(b));
                put(WENT, b, 0);
            }
            row[STEPS] = 0;
        }

        void advanceAll(Water on) {
            for (int b = 0; b < on.boats; b++) advance(on, b);
            row[STEPS]++;
        }

        private void advance(Water on, int b) {
            if (isSitting(on, b)) return;
            int j = at(b);
            put(AT, b, on.goesTo(j, from(b)));
            put(FROM, b, j);
            put(WENT, b, went(b) + 1);
            lighten(b, on.wearOf(b));
        }

        private boolean isSitting(Water on, int b) {
            return pull(b) <= on.hardOn(at(b), from(b));
        }

        int sitting(Water on) {
            int set = 0;
            for (int b = 0; b < on.boats; b++) {
                if (isSitting(on, b)) set |= 1 << b;
            }
            return set;
        }

        int places(Water on) {
            int set = 0;
            for (int b = 0; b < on.boats; b++) set |= 1 << at(b);
            return set;
        }

        void lighten(int b, int much) {
            put(PULL, b, Math.max(0, pull(b) - much));
        }

        void load(int b, int much) {
            put(PULL, b, Math.min(MOST_PULL, pull(b) + much));
        }

        void swapPulls(int a, int b) {
            int first = pull(a);
            put(PULL, a, pull(b));
            put(PULL, b, first);
        }

        void comeFromNowhere(int b) {
            put(FROM, b, NONE);
        }
    }

    /** Fleets put by, each in a slot. */
    private static final class Shelf {
        private final int slots;
        private final int[] rows;

        Shelf(int slots) {
            this.slots = Math.max(0, slots);
            rows = new int[this.slots * Fleet.ROW];
        }

        void store(int slot, Fleet fleet) {
            if (slot >= 0 && slot < slots) System.arraycopy(fleet.row, 0, rows, slot * Fleet.ROW, Fleet.ROW);
        }

        void fetch(int slot, Fleet fleet) {
            if (slot >= 0 && slot < slots) System.arraycopy(rows, slot * Fleet.ROW, fleet.row, 0, Fleet.ROW);
        }
    }

    /** What can be undone: the slots go round, so that the oldest is lost first. */
    private static final class Past {
        private final Shelf shelf = new Shelf(MOST_PAST);
        private int next = 0;
        int count = 0;

        void remember(Fleet fleet) {
            shelf.store(next, fleet);
            next = (next + 1) % MOST_PAST;
            if (count < MOST_PAST) count++;
        }

        void bringBack(Fleet fleet) {
            if (count < 1) return;
            next = (next + MOST_PAST - 1) % MOST_PAST;
            count--;
            shelf.fetch(next, fleet);
        }

        void forget() {
            count = 0;
        }
    }

    private static final class Images {
        private final Shelf shelf = new Shelf(IMAGES);
        private final int[] seeds = new int[IMAGES];
        private final boolean[] kept = new boolean[IMAGES];

        boolean isKept(int i) {
            return i >= 0 && i < IMAGES && kept[i];
        }

        void keepIn(int i, Fleet fleet, Draws draws) {
            if (i < 0 || i >= IMAGES) return;
            shelf.store(i, fleet);
            seeds[i] = draws.value;
            kept[i] = true;
        }

        void bringBack(int i, Fleet fleet, Draws draws) {
            if (!isKept(i)) return;
            shelf.fetch(i, fleet);
            draws.value = seeds[i];
        }

        void forget() {
            for (int i = 0; i < IMAGES; i++) kept[i] = false;
        }
    }

    private static final class Draws {
        int value = 0;

        int next(int n) {
            value = (int) ((value * 1103515245L + 12345L) & 0x7fffffffL);
            return n < 1 ? 0 : value / 65536 % n;
        }
    }

    /** Lines that tell of a boat, behind how many steps, at which junction. */
    private static final class Entries {
        private final int most;
        private final int[] boats;
        private final int[] steps;
        private final int[] junctions;
        int count = 0;

        Entries(int most) {
            this.most = Math.max(0, most);
            boats = new int[this.most];
            steps = new int[this.most];
            junctions = new int[this.most];
        }

        boolean add(int b, int n, int j) {
            if (count < 0 || count >= most) return false;
            boats[count] = b;
            steps[count] = n;
            junctions[count] = j;
            count++;
            return true;
        }

        private boolean has(int e) {
            return e >= 0 && e < count && e < most;
        }

        int boatIn(int e) {
            return has(e) ? boats[e] : NONE;
        }

        int stepsIn(int e) {
            return has(e) ? steps[e] : NONE;
        }

        int junctionIn(int e) {
            return has(e) ? junctions[e] : NONE;
        }
    }

    /**
     * The junctions that a boat would come to, one behind the other, if nothing stopped it. Which they are does not
     * depend on its pull, only how far it comes: so one way, with the least pull for each place on it, answers for
     * all pulls at once.
     */
    private static final class Way {
        private static final int PLACES = LONG_RUN + 2;
        private final int[] places = new int[PLACES];
        // needs[k]: the least pull at the start by which it comes to place k; it never falls; NEVER: no pull does.
        private final int[] needs = new int[PLACES];
        private int last = 0;

        void lay(Water on, int start, int cameFrom, int wear, int steps) {
            last = Math.max(0, Math.min(steps, PLACES - 1));
            int j = start;
            int from = cameFrom;
            places[0] = j;
            needs[0] = 0;
            for (int k = 0; k < last; k++) {
                int need = on.hardOn(j, from) + k * wear + 1;
                int next = on.goesTo(j, from);
                if (next != NONE) {
                    from = j;
                    j = next;
                }
                places[k + 1] = j;
                needs[k + 1] = Math.min(NEVER, Math.max(needs[k], need));
            }
        }

        int place(int k) {
            return k >= 0 && k <= last ? places[k] : NONE;
        }

        int need(int k) {
            return k >= 0 && k <= last ? needs[k] : NEVER;
        }

        /** How many places on it goes within n steps. */
        int gone(int pull, int n) {
            int k = 0;
            while (k < n && need(k + 1) <= pull) k++;
            return k;
        }

        int placesUpTo(int end) {
            int set = 0;
            for (int k = 0; k <= end && k <= last; k++) set |= 1 << places[k];
            return set;
        }

        /** The steps of the ring, for a boat that goes on for good. */
        int ring() {
            for (int d = 1; ON_RING + d <= last; d++) {
                if (place(ON_RING + d) == place(ON_RING) && place(ON_RING + d - 1) == place(ON_RING - 1)) return d;
            }
            return NONE;
        }

        /** Whether there are pulls by which it sits at place k, and k is at junction j. */
        private boolean endsAt(int k, int j) {
            return place(k) == j && need(k) < need(k + 1);
        }

        int leastLess(int pull, int j) {
            int best = NONE;
            for (int k = 0; k < last; k++) {
                if (!endsAt(k, j) || need(k) > pull) continue;
                int much = Math.max(0, pull - need(k + 1) + 1);
                if (best == NONE || much < best) best = much;
            }
            return best;
        }

        int leastMore(int pull, int j) {
            int best = NONE;
            for (int k = 0; k < last; k++) {
                if (!endsAt(k, j) || need(k + 1) <= pull) continue;
                int much = Math.max(0, need(k) - pull);
                if (best == NONE || much < best) best = much;
            }
            return best;
        }
    }

    /** The pulls that fit what is seen, in bands: those of band k come k places far within the steps that can be seen. */
    private static final class Bands {
        private static final int COUNT = MOST_SEEN_STEPS + 1;
        private final int[] lows = new int[COUNT];
        private final int[] sizes = new int[COUNT];
        private final int[] parts = new int[MOST_JUNCTIONS];

        void sort(Way way, Entries seen, int b) {
            for (int k = 0; k < COUNT; k++) {
                // Behind the last place the way is not laid: its need is NEVER, so the last band goes up to the most.
                lows[k] = way.need(k);
                sizes[k] = fits(way, seen, b, k) ? way.need(k + 1) - way.need(k) : 0;
            }
        }

        private static boolean fits(Way way, Entries seen, int b, int k) {
            for (int e = 0; e < seen.count; e++) {
                if (seen.boatIn(e) != b) continue;
                if (way.place(Math.min(k, seen.stepsIn(e))) != seen.junctionIn(e)) return false;
            }
            return true;
        }

        int total() {
            int all = 0;
            for (int k = 0; k < COUNT; k++) all += sizes[k];
            return all;
        }

        int pullAt(int i) {
            if (i < 0) return NONE;
            int ahead = 0;
            for (int k = 0; k < COUNT; k++) {
                if (i < ahead + sizes[k]) return lows[k] + i - ahead;
                ahead += sizes[k];
            }
            return NONE;
        }

        int bestParting(Way way) {
            int best = NONE;
            int least = total();
            for (int n = 1; n <= MOST_SEEN_STEPS; n++) {
                int greatest = greatestPart(way, n);
                if (greatest < least) {
                    least = greatest;
                    best = n;
                }
            }
            return best;
        }

        private int greatestPart(Way way, int n) {
            for (int j = 0; j < MOST_JUNCTIONS; j++) parts[j] = 0;
            int greatest = 0;
            for (int k = 0; k < COUNT; k++) {
                int j = way.place(Math.min(k, n));
                if (j < 0 || j >= MOST_JUNCTIONS) continue;
                parts[j] += sizes[k];
                greatest = Math.max(greatest, parts[j]);
            }
            return greatest;
        }
    }

    /** Who gets whose pull: all orders are tried from the first on, so the first of the cheapest stays. */
    private static final class Exchange {
        // All orders of five boats.
        private static final int MOST_ORDERS = 120;
        private int boats = 0;
        private final int[] allowed = new int[MOST_BOATS];
        private final int[] order = new int[MOST_BOATS];
        private final int[] best = new int[MOST_BOATS];
        int fewest = NONE;

        void begin(int count) {
            boats = Math.max(0, Math.min(count, MOST_BOATS));
            fewest = NONE;
            for (int b = 0; b < MOST_BOATS; b++) {
                allowed[b] = 0;
                order[b] = b;
            }
        }

        void allow(int taker, int giver) {
            if (taker >= 0 && taker < MOST_BOATS) allowed[taker] |= 1 << giver;
        }

        int giverTo(int b) {
            return fewest != NONE && b >= 0 && b < MOST_BOATS ? best[b] : NONE;
        }

        void search() {
            boolean more = true;
            for (int k = 0; k < MOST_ORDERS && more; k++) {
                if (isAllowed()) compare();
                more = nextOrder();
            }
        }

        private boolean isAllowed() {
            for (int b = 0; b < boats; b++) {
                if ((allowed[b] >> order[b] & 1) == 0) return false;
            }
            return true;
        }

        private void compare() {
            // A boat that keeps its own is a ring of one, so the changes are the boats less all rings.
            int cost = boats - rings();
            if (fewest != NONE && fewest <= cost) return;
            fewest = cost;
            for (int b = 0; b < boats; b++) best[b] = order[b];
        }

        private int rings() {
            int count = 0;
            int passed = 0;
            for (int b = 0; b < boats; b++) {
                if ((passed >> b & 1) != 0) continue;
                count++;
                passed |= ringOf(b);
            }
            return count;
        }

        private int ringOf(int start) {
            int set = 0;
            int b = start;
            for (int k = 0; k < boats && b >= 0 && b < boats; k++) {
                set |= 1 << b;
                b = order[b];
            }
            return set;
        }

        private boolean nextOrder() {
            int rise = boats - 2;
            while (rise >= 0 && order[rise] > order[rise + 1]) rise--;
            if (rise < 0) return false;
            int other = boats - 1;
            while (other > rise && order[other] < order[rise]) other--;
            swap(rise, other);
            for (int low = rise + 1, high = boats - 1; low < high; low++, high--) swap(low, high);
            return true;
        }

        private void swap(int a, int b) {
            if (a < 0 || a >= MOST_BOATS || b < 0 || b >= MOST_BOATS) return;
            int held = order[a];
            order[a] = order[b];
            order[b] = held;
        }
    }
}
