/**
 * The other one has a limp: GLASSES that SHOW what he does late, thin, by a thought, with a limp
 * or with a friend, TERMS between both, and what follows of them. The document (DOC.md) has the
 * words in capitals and what each call answers.
 *
 * Every row that a call needs is made by the constructor and used again: no call makes an object.
 */
public final class LimpMirror {
    public static final int BAD = -1, FULL = -2, FINDING = -3, STATE = -4, SPENT = -6, NONE = -9;

    private static final int NO_FINDING = 0, NOTHING = 1, BEYOND = 2, UNLIKE = 3, NOUGHT = 4, SIZE = 5;

    private static final int GLASS = 0, LATE = 1, THIN = 2, THOUGHT = 3, LIMP = 4, FRIEND = 5;
    private static final int KINDS = 6, DELAYS = 4, LAWS = 24;

    private static final int STEPS = 6, ALL_STEPS = 63;

    private static final int ROWS = 6, ROW_MOST = 40, TEXTS = 4, TEXT_MOST = 60, KEPT_MOST = 3;
    private static final int GLASSES_MOST = 6, TERMS_MOST = 8, DEEDS_MOST = 40, LOTS_MOST = 20;
    private static final int DOINGS_MOST = 12, SHOWN_MOST = 6, KEEPS_MOST = 5, TURNS_MOST = 3;

    private static final int BLANK = 32, LETTER_HABITS = 104, LETTER_TERM = 110, FIGURE_0 = 48;
    private static final int[] KIND_LETTERS = {103, 108, 116, 111, 105, 102};

    private static final int PUDDLES = 12;
    private static final long LOT_FACTOR = 48271L, LOT_MODULUS = 2147483647L;

    private static final int MISSING = -1, NOWHERE = -1;

    private final Cells[] rows = new Cells[ROWS];
    private final Cells[] texts = new Cells[TEXTS];
    private final Pane[] panes = new Pane[LAWS];
    private final Deeds deeds = new Deeds();
    private final Deeds[] kept = new Deeds[KEPT_MOST];
    private Room room = new Room();
    private Room draft = new Room();

    private final Cells trial = new Cells(DOINGS_MOST);
    private final int[] sets = new int[SHOWN_MOST];
    private final int[] tally = new int[STEPS];
    private final Chains chains = new Chains();

    private int told = 0;
    private long over = 0;
    private long under = 1;
    private int latestFinding = NO_FINDING;
    private final int[] findingCounts = new int[SIZE + 1];

    public LimpMirror() {
        for (int r = 0; r < ROWS; r++) {
            rows[r] = new Cells(ROW_MOST);
        }
        for (int t = 0; t < TEXTS; t++) {
            texts[t] = new Cells(TEXT_MOST);
        }
        for (int law = 0; law < LAWS; law++) {
            panes[law] = newPane(law / DELAYS, law % DELAYS);
        }
        for (int k = 0; k < KEPT_MOST; k++) {
            kept[k] = new Deeds();
            kept[k].drop();
        }
    }

    // ---- 1 rows, texts, rooms

    public int row(int r, int n) {
        if (!isRow(r) || n > ROW_MOST) {
            return BAD;
        }
        if (n < 0) {
            return refuse(SIZE);
        }
        rows[r].open(n, 0);
        return n;
    }

    public int lay(int r, int i, int v) {
        if (!isRow(r)) {
            return BAD;
        }
        int finding = findingOfPlace(rows[r], i);
        if (finding != NO_FINDING) {
            return refuse(finding);
        }
        told = rows[r].get(i);
        rows[r].set(i, v);
        return 1;
    }

    public int at(int r, int i) {
        if (!isRow(r)) {
            return BAD;
        }
        int finding = findingOfPlace(rows[r], i);
        if (finding != NO_FINDING) {
            return refuse(finding);
        }
        told = rows[r].get(i);
        return 1;
    }

    public int tear(int r) {
        if (!isRow(r)) {
            return BAD;
        }
        if (rows[r].isMissing()) {
            return refuse(NOTHING);
        }
        rows[r].drop();
        return 1;
    }

    public int copy(int r, int i, int to, int j, int n) {
        if (!isRow(r) || !isRow(to)) {
            return BAD;
        }
        if (n < 0) {
            return refuse(SIZE);
        }
        if (rows[r].isMissing() || rows[to].isMissing()) {
            return refuse(NOTHING);
        }
        if (!rows[r].hasPlaces(i, n) || !rows[to].hasPlaces(j, n)) {
            return refuse(BEYOND);
        }
        rows[to].take(rows[r], i, j, n);
        return 1;
    }

    public int mean(int r) {
        if (!isRow(r)) {
            return BAD;
        }
        Cells row = rows[r];
        if (row.isMissing()) {
            return refuse(NOTHING);
        }
        int size = row.size();
        if (size == 0) {
            return refuse(NOUGHT);
        }
        // a sum of 40 ints does not fit in an int; the mean always does
        long sum = 0;
        for (int i = 0; i < size; i++) {
            sum += row.get(i);
        }
        told = (int) (sum / size);
        return 1;
    }

    public int text(int t, int n) {
        if (!isText(t) || n > TEXT_MOST) {
            return BAD;
        }
        if (n < 0) {
            return refuse(SIZE);
        }
        texts[t].open(n, BLANK);
        return n;
    }

    public int put(int t, int i, int v) {
        if (!isText(t)) {
            return BAD;
        }
        int finding = findingOfPlace(texts[t], i);
        if (finding != NO_FINDING) {
            return refuse(finding);
        }
        int was = texts[t].get(i);
        texts[t].set(i, (byte) v);
        return was + 1000;
    }

    public int fault(int t) {
        if (!isText(t)) {
            return BAD;
        }
        if (texts[t].isMissing()) {
            return refuse(NOTHING);
        }
        return draft.read(texts[t]);
    }

    public int room(int t) {
        if (!isText(t)) {
            return BAD;
        }
        if (texts[t].isMissing()) {
            return refuse(NOTHING);
        }
        if (draft.read(texts[t]) != NONE) {
            return STATE;
        }
        Room left = room;
        room = draft;
        draft = left;
        deeds.cutTo(0);
        for (int k = 0; k < KEPT_MOST; k++) {
            kept[k].drop();
        }
        return room.glasses();
    }

    public int glass(int k, int what) {
        if (!isGlass(k) || what < 0 || what > 3) {
            return BAD;
        }
        told = glassFact(k, what);
        return 1;
    }

    public int mark(int k, int kind) {
        if (!isGlass(k) || kind < LATE || kind > FRIEND) {
            return BAD;
        }
        Pane pane = paneOf(k);
        int place = deeds.size();
        if (!pane.isOf(kind)) {
            return refuse(UNLIKE);
        }
        switch (kind) {
            case LATE: return pane.delay() == 0 ? NONE : room.shown(pane, deeds, place);
            case THIN: return noughtsAtDeeds(pane);
            case THOUGHT: return Integer.bitCount(room.stepsSeenAs(pane, place, 0));
            case LIMP: return Limp.placesToLimp(place);
            default: return room.seen(pane, place, 0);
        }
    }

    public int habit(int step) {
        return isStep(step) ? room.thought(step) : BAD;
    }

    public int term(int n, int which) {
        if (n < 0 || n >= room.terms() || which < 0 || which > 1) {
            return BAD;
        }
        return room.termStep(n, which);
    }

    // ---- 2 deeds

    public int step(int k, int step) {
        if (!isGlass(k) || !isStep(step)) {
            return BAD;
        }
        if (deeds.size() >= DEEDS_MOST) {
            return FULL;
        }
        return doStep(k, step);
    }

    public int deed(int d, int what) {
        if (d < 0 || d >= deeds.size() || what < 0 || what > 3) {
            return BAD;
        }
        told = deeds.fact(d, what);
        return 1;
    }

    public int broken() {
        told = deeds.firstThatBroke();
        return deeds.howManyBroke(0);
    }

    public int undo(int n) {
        int size = deeds.size();
        if (n < 0 || n > size) {
            return BAD;
        }
        deeds.cutTo(n);
        return size - n;
    }

    public int keep(int k) {
        if (!isKept(k)) {
            return BAD;
        }
        if (room.glasses() == 0) {
            return STATE;
        }
        kept[k].takeAll(deeds);
        return deeds.size();
    }

    public int on(int k) {
        if (!isKept(k)) {
            return BAD;
        }
        if (kept[k].isMissing()) {
            return refuse(NOTHING);
        }
        deeds.takeAll(kept[k]);
        return deeds.size();
    }

    // ---- 3 what is shown

    public int show(int k, int r, int to) {
        if (!isGlass(k) || !isRow(r) || !isRow(to)) {
            return BAD;
        }
        int finding = findingOfSteps(rows[r], DOINGS_MOST);
        if (finding != NO_FINDING) {
            return refuse(finding);
        }
        // both ROWS may be the same one: a late glass still needs the STEPS that are written over
        trial.takeAll(rows[r]);
        Pane pane = paneOf(k);
        int size = trial.size();
        rows[to].open(size, 0);
        for (int i = 0; i < size; i++) {
            rows[to].set(i, room.shown(pane, trial, i));
        }
        return size;
    }

    public int breaks(int k, int r) {
        if (!isGlass(k) || !isRow(r)) {
            return BAD;
        }
        int finding = findingOfSteps(rows[r], DOINGS_MOST);
        if (finding != NO_FINDING) {
            return refuse(finding);
        }
        Pane pane = paneOf(k);
        int first = NONE;
        int places = 0;
        for (int i = 0; i < rows[r].size(); i++) {
            if (room.isBroken(rows[r].get(i), room.shown(pane, rows[r], i))) {
                first = first == NONE ? i : first;
                places++;
            }
        }
        told = places;
        return first;
    }

    public int alike(int k, int r) {
        if (!isGlass(k) || !isRow(r)) {
            return BAD;
        }
        int finding = findingOfSteps(rows[r], DOINGS_MOST);
        if (finding != NO_FINDING) {
            return refuse(finding);
        }
        Pane pane = paneOf(k);
        int places = 0;
        for (int i = 0; i < rows[r].size(); i++) {
            if (rows[r].get(i) == room.shown(pane, rows[r], i)) {
                places++;
            }
        }
        return places;
    }

    public int fit(int r, int q) {
        if (!isRow(r) || !isRow(q)) {
            return BAD;
        }
        int finding = findingOfPair(rows[r], rows[q], DOINGS_MOST);
        if (finding != NO_FINDING) {
            return refuse(finding);
        }
        int first = NONE;
        int places = 0;
        for (int i = 0; i < rows[r].size(); i++) {
            if (rows[r].get(i) != rows[q].get(i)) {
                first = first == NONE ? i : first;
                places++;
            }
        }
        told = first;
        return places;
    }

    // ---- 4 what was done

    public int ways(int k, int r) {
        if (!isGlass(k) || !isRow(r)) {
            return BAD;
        }
        int finding = findingOfSteps(rows[r], SHOWN_MOST);
        if (finding != NO_FINDING) {
            return refuse(finding);
        }
        long doings = findSets(paneOf(k), rows[r]) ? 1 : 0;
        for (int i = 0; i < rows[r].size() && i < SHOWN_MOST; i++) {
            doings *= Integer.bitCount(sets[i]);
        }
        tell(doings, 1);
        return 1;
    }

    public int first(int k, int r, int to) {
        if (!isGlass(k) || !isRow(r) || !isRow(to)) {
            return BAD;
        }
        int finding = findingOfSteps(rows[r], SHOWN_MOST);
        if (finding != NO_FINDING) {
            return refuse(finding);
        }
        if (!findSets(paneOf(k), rows[r])) {
            return NONE;
        }
        int size = rows[r].size();
        rows[to].open(size, 0);
        for (int i = 0; i < size && i < SHOWN_MOST; i++) {
            rows[to].set(i, leastOf(sets[i]));
        }
        return size;
    }

    public int can(int k, int r, int place) {
        if (!isGlass(k) || !isRow(r) || place < 0) {
            return BAD;
        }
        int finding = findingOfSteps(rows[r], SHOWN_MOST);
        if (finding != NO_FINDING) {
            return refuse(finding);
        }
        if (!rows[r].has(place) || place >= SHOWN_MOST) {
            return BAD;
        }
        return findSets(paneOf(k), rows[r]) ? sets[place] : 0;
    }

    // ---- 5 laws of a glass

    public int laws(int r, int q) {
        if (!isRow(r) || !isRow(q)) {
            return BAD;
        }
        int finding = findingOfPair(rows[r], rows[q], DOINGS_MOST);
        if (finding != NO_FINDING) {
            return refuse(finding);
        }
        return lawsOf(rows[r], rows[q]);
    }

    public int next(int r, int q) {
        if (!isRow(r) || !isRow(q)) {
            return BAD;
        }
        // the next STEP needs a place of its own within the most DOINGS
        int finding = findingOfPair(rows[r], rows[q], DOINGS_MOST - 1);
        if (finding != NO_FINDING) {
            return refuse(finding);
        }
        int laws = lawsOf(rows[r], rows[q]);
        if (Integer.bitCount(laws) < 2) {
            return NONE;
        }
        int size = rows[r].size();
        trial.open(size + 1, 0);
        trial.take(rows[r], 0, 0, size);
        int best = 0;
        int fewest = LAWS + 1;
        for (int step = 0; step < STEPS; step++) {
            trial.set(size, step);
            int most = mostThatShowOneThing(laws, size);
            if (most < fewest) {
                fewest = most;
                best = step;
            }
        }
        told = fewest;
        return best;
    }

    public int he(int k, int r, int q) {
        if (!isGlass(k) || !isRow(r) || !isRow(q)) {
            return BAD;
        }
        int finding = findingOfPair(rows[r], rows[q], DOINGS_MOST);
        if (finding != NO_FINDING) {
            return refuse(finding);
        }
        int firstFails = firstNotShown(paneOf(k), rows[r], rows[q]);
        int secondFails = firstNotShown(paneOf(k), rows[q], rows[r]);
        if (firstFails == NONE || secondFails == NONE) {
            told = firstFails == NONE ? secondFails : firstFails;
        } else {
            told = Math.min(firstFails, secondFails);
        }
        return (firstFails == NONE ? 1 : 0) + (secondFails == NONE ? 2 : 0);
    }

    // ---- 6 rows that break no term, turns

    public int keeps(int k, int n) {
        if (!isGlass(k) || n < 0 || n > KEEPS_MOST) {
            return BAD;
        }
        chains.weigh(room, paneOf(k), n);
        tell(chains.rows(), 1);
        told = chains.firstSteps();
        return 1;
    }

    public int still(int k, int n) {
        if (!isGlass(k) || n < 0 || n > KEEPS_MOST) {
            return BAD;
        }
        chains.weigh(room, paneOf(k), n);
        return chains.rows() == 0 ? NONE : chains.fewestStill();
    }

    public int game(int n) {
        if (n < 0 || n > TURNS_MOST) {
            return BAD;
        }
        if (room.glasses() == 0) {
            return STATE;
        }
        if (n == 0) {
            return 1;
        }
        trial.open(n, 0);
        return leastPick(0, n) == NONE ? 0 : 1;
    }

    public int picks(int n) {
        if (n < 1 || n > TURNS_MOST) {
            return BAD;
        }
        if (room.glasses() == 0) {
            return STATE;
        }
        trial.open(n, 0);
        return leastPick(0, n);
    }

    // ---- 7 puddles, lots

    public int odds(int k, int r, int p) {
        if (!isGlass(k) || !isRow(r) || p < 0 || p > PUDDLES) {
            return BAD;
        }
        int finding = findingOfSteps(rows[r], DOINGS_MOST);
        if (finding != NO_FINDING) {
            return refuse(finding);
        }
        long good = 1;
        long all = 1;
        for (int i = 0; i < rows[r].size(); i++) {
            good *= PUDDLES - breakingOfTwelve(paneOf(k), rows[r], i, p);
            all *= PUDDLES;
        }
        tell(good, all);
        return 1;
    }

    public int mid(int k, int r, int p) {
        if (!isGlass(k) || !isRow(r) || p < 0 || p > PUDDLES) {
            return BAD;
        }
        int finding = findingOfSteps(rows[r], DOINGS_MOST);
        if (finding != NO_FINDING) {
            return refuse(finding);
        }
        long sum = 0;
        for (int i = 0; i < rows[r].size(); i++) {
            sum += breakingOfTwelve(paneOf(k), rows[r], i, p);
        }
        tell(sum, PUDDLES);
        return 1;
    }

    public int lots(int n, int seed) {
        if (n < 1 || n > LOTS_MOST || seed < 1 || seed >= LOT_MODULUS) {
            return BAD;
        }
        int glasses = room.glasses();
        if (glasses == 0) {
            return STATE;
        }
        int before = deeds.size();
        if (before + n > DEEDS_MOST) {
            return FULL;
        }
        long lot = seed;
        for (int i = 0; i < n; i++) {
            lot = LOT_FACTOR * lot % LOT_MODULUS;
            doStep((int) (lot % glasses), (int) (lot / 8 % STEPS));
        }
        return deeds.howManyBroke(before);
    }

    // ---- 8 what is told

    public int asked() {
        return told;
    }

    public long upper() {
        return over;
    }

    public long lower() {
        return under;
    }

    public int count(int what) {
        switch (what) {
            case 0: return room.glasses();
            case 1: return room.terms();
            case 2: return deeds.size();
            case 3: return deeds.howManyBroke(0);
            case 4: return glassesOf(LATE);
            case 5: return glassesOf(THIN);
            case 6: return howManyThere(rows);
            case 7: return howManyThere(texts);
            case 8: return keptOnes();
            default: return BAD;
        }
    }

    public int finding() {
        return latestFinding;
    }

    public int findings(int f) {
        return f < NOTHING || f > SIZE ? BAD : findingCounts[f];
    }

    public long digest() {
        long h = 17;
        for (int what = 0; what <= 8; what++) {
            h = 31 * h + count(what);
        }
        for (int step = 0; step < STEPS; step++) {
            h = 31 * h + room.thought(step);
        }
        for (int k = 0; k < room.glasses(); k++) {
            for (int what = 0; what <= 3; what++) {
                h = 31 * h + glassFact(k, what);
            }
        }
        for (int n = 0; n < room.terms(); n++) {
            h = 31 * (31 * h + room.termStep(n, 0)) + room.termStep(n, 1);
        }
        for (int d = 0; d < deeds.size(); d++) {
            for (int what = 0; what <= 3; what++) {
                h = 31 * h + deeds.fact(d, what);
            }
        }
        for (int k = 0; k < KEPT_MOST; k++) {
            h = 31 * h + kept[k].size();
        }
        return digestOf(texts, digestOf(rows, h));
    }

    // ---- refusals

    private int refuse(int finding) {
        latestFinding = finding;
        if (finding >= NOTHING && finding <= SIZE) {
            findingCounts[finding]++;
        }
        return FINDING;
    }

    private static boolean isRow(int r) {
        return r >= 0 && r < ROWS;
    }

    private static boolean isText(int t) {
        return t >= 0 && t < TEXTS;
    }

    private static boolean isKept(int k) {
        return k >= 0 && k < KEPT_MOST;
    }

    private static boolean isStep(int step) {
        return step >= 0 && step < STEPS;
    }

    private boolean isGlass(int k) {
        return k >= 0 && k < room.glasses();
    }

    private static int findingOfPlace(Cells cells, int i) {
        if (cells.isMissing()) {
            return NOTHING;
        }
        return cells.has(i) ? NO_FINDING : BEYOND;
    }

    private static int findingOfSteps(Cells row, int most) {
        if (row.isMissing()) {
            return NOTHING;
        }
        if (row.size() > most) {
            return SIZE;
        }
        for (int i = 0; i < row.size(); i++) {
            if (!isStep(row.get(i))) {
                return UNLIKE;
            }
        }
        return NO_FINDING;
    }

    private static int findingOfPair(Cells one, Cells other, int most) {
        int finding = findingOfSteps(one, most);
        if (finding == NO_FINDING) {
            finding = findingOfSteps(other, most);
        }
        if (finding == NO_FINDING && one.size() != other.size()) {
            finding = SIZE;
        }
        return finding;
    }

    // ---- glasses and deeds

    private static Pane newPane(int kind, int delay) {
        switch (kind) {
            case LATE: return new Late(kind, delay);
            case THIN: return new Thin(kind, delay);
            case THOUGHT: return new Thought(kind, delay);
            case LIMP: return new Limp(kind, delay);
            case FRIEND: return new Friend(kind, delay);
            default: return new Pane(kind, delay);
        }
    }

    private Pane paneOf(int k) {
        int law = room.lawOf(k);
        return law >= 0 && law < LAWS ? panes[law] : panes[0];
    }

    private int glassFact(int k, int what) {
        switch (what) {
            case 0: return paneOf(k).kind();
            case 1: return paneOf(k).delay();
            case 2: return deeds.howManyBefore(k);
            default: return deeds.howManyBrokeBefore(k);
        }
    }

    private int noughtsAtDeeds(Pane pane) {
        int places = 0;
        for (int i = 0; i < deeds.size(); i++) {
            if (room.shown(pane, deeds, i) == 0) {
                places++;
            }
        }
        return places;
    }

    private int doStep(int k, int step) {
        int place = deeds.size();
        deeds.add(step, k);
        int shown = room.shown(paneOf(k), deeds, place);
        deeds.see(place, shown, room.firstBroken(step, shown));
        return shown;
    }

    private int glassesOf(int kind) {
        int ones = 0;
        for (int k = 0; k < room.glasses(); k++) {
            if (paneOf(k).isOf(kind)) {
                ones++;
            }
        }
        return ones;
    }

    private int keptOnes() {
        int ones = 0;
        for (int k = 0; k < KEPT_MOST; k++) {
            if (!kept[k].isMissing()) {
                ones++;
            }
        }
        return ones;
    }

    private static int howManyThere(Cells[] all) {
        int there = 0;
        for (int i = 0; i < all.length; i++) {
            if (!all[i].isMissing()) {
                there++;
            }
        }
        return there;
    }

    private static long digestOf(Cells[] all, long from) {
        long h = from;
        for (int i = 0; i < all.length; i++) {
            h = 31 * h + all[i].size();
            for (int place = 0; place < all[i].size(); place++) {
                h = 31 * h + all[i].get(place);
            }
        }
        return h;
    }

    // ---- what was done, laws, turns, chances

    /**
     * Finds at each place the STEPS by which a GLASS can SHOW a row: whether there are DOINGS.
     * A place SHOWS one STEP at most, so the places' STEPS are free of one another.
     */
    private boolean findSets(Pane pane, Cells shown) {
        int size = Math.min(shown.size(), SHOWN_MOST);
        for (int i = 0; i < size; i++) {
            sets[i] = ALL_STEPS;
        }
        boolean possible = true;
        for (int i = 0; i < size; i++) {
            int source = pane.source(i);
            if (source >= 0 && source < size) {
                sets[source] &= room.stepsSeenAs(pane, i, shown.get(i));
            } else if (shown.get(i) != 0) {
                possible = false;
            }
        }
        for (int i = 0; i < size; i++) {
            possible &= sets[i] != 0;
        }
        return possible;
    }

    private static int leastOf(int bits) {
        for (int step = 0; step < STEPS; step++) {
            if ((bits >> step & 1) == 1) {
                return step;
            }
        }
        return 0;
    }

    private int firstNotShown(Pane pane, Cells doings, Cells shown) {
        for (int i = 0; i < doings.size(); i++) {
            if (room.shown(pane, doings, i) != shown.get(i)) {
                return i;
            }
        }
        return NONE;
    }

    private int lawsOf(Cells doings, Cells shown) {
        int laws = 0;
        for (int law = 0; law < LAWS; law++) {
            if (firstNotShown(panes[law], doings, shown) == NONE) {
                laws |= 1 << law;
            }
        }
        return laws;
    }

    private int mostThatShowOneThing(int laws, int place) {
        for (int shown = 0; shown < STEPS; shown++) {
            tally[shown] = 0;
        }
        int most = 0;
        for (int law = 0; law < LAWS; law++) {
            if ((laws >> law & 1) == 1) {
                int shown = room.shown(panes[law], trial, place);
                if (isStep(shown)) {
                    tally[shown]++;
                    most = Math.max(most, tally[shown]);
                }
            }
        }
        return most;
    }

    /** The least STEP at a turn from which he gets through all n turns; at most n calls deep. */
    private int leastPick(int turn, int n) {
        if (turn >= TURNS_MOST) {
            return NONE;
        }
        for (int step = 0; step < STEPS; step++) {
            trial.set(turn, step);
            if (isSafeBeforeAll(turn) && (turn + 1 >= n || leastPick(turn + 1, n) != NONE)) {
                return step;
            }
        }
        return NONE;
    }

    /** The other one picks behind him, so a STEP must be safe before every GLASS. */
    private boolean isSafeBeforeAll(int turn) {
        for (int k = 0; k < room.glasses(); k++) {
            if (room.isBroken(trial.get(turn), room.shown(paneOf(k), trial, turn))) {
                return false;
            }
        }
        return true;
    }

    private int breakingOfTwelve(Pane pane, Cells doings, int place, int p) {
        int step = doings.get(place);
        int wet = room.isBroken(step, 0) ? p : 0;
        int dry = room.isBroken(step, room.shown(pane, doings, place)) ? PUDDLES - p : 0;
        return wet + dry;
    }

    private void tell(long upper, long lower) {
        long divisor = commonDivisor(upper, lower);
        if (divisor > 0) {
            over = upper / divisor;
            under = lower / divisor;
        }
    }

    private static long commonDivisor(long upper, long lower) {
        long big = lower;
        long small = upper;
        // no two longs need as many as a hundred divisions
        for (int i = 0; i < 100 && small != 0; i++) {
            long rest = big % small;
            big = small;
            small = rest;
        }
        return big;
    }

    // ---- what is held

    /** A row of STEPS that were done, be it told in a ROW or done truly. */
    private abstract static class Doings {
        abstract int stepAt(int place);
    }

    /** A ROW or a TEXT, which may be missing. */
    private static final class Cells extends Doings {
        private final int[] cells;
        private int size = MISSING;

        Cells(int most) {
            cells = new int[Math.max(most, 0)];
        }

        boolean isMissing() {
            return size == MISSING;
        }

        int size() {
            return size;
        }

        boolean has(int place) {
            return place >= 0 && place < size && place < cells.length;
        }

        /** Whether n (not below 0) places from one on are there; the sum of both could wrap around. */
        boolean hasPlaces(int place, int n) {
            return place >= 0 && place <= size && n <= size - place;
        }

        int get(int place) {
            return has(place) ? cells[place] : 0;
        }

        void set(int place, int v) {
            if (has(place)) {
                cells[place] = v;
            }
        }

        void open(int n, int v) {
            size = Math.max(0, Math.min(n, cells.length));
            for (int i = 0; i < size; i++) {
                cells[i] = v;
            }
        }

        void drop() {
            size = MISSING;
        }

        void take(Cells from, int i, int j, int n) {
            if (n > 0 && from.hasPlaces(i, n) && hasPlaces(j, n)) {
                System.arraycopy(from.cells, i, cells, j, n);
            }
        }

        void takeAll(Cells from) {
            open(from.size, 0);
            take(from, 0, 0, size);
        }

        int stepAt(int place) {
            return get(place);
        }
    }

    /** DEEDS, of each: the STEP, the GLASS, what was SHOWN, the first TERM that was BROKEN. */
    private static final class Deeds extends Doings {
        private static final int FACTS = 4, STEP = 0, BEFORE = 1, SHOWN = 2, BROKEN = 3;

        private final int[] facts = new int[FACTS * DEEDS_MOST];
        private int size = 0;

        int size() {
            return size;
        }

        boolean isMissing() {
            return size == MISSING;
        }

        void drop() {
            size = MISSING;
        }

        int fact(int d, int what) {
            boolean isThere = d >= 0 && d < size && what >= 0 && what < FACTS;
            return isThere ? facts[FACTS * d + what] : 0;
        }

        private void write(int d, int what, int v) {
            if (d >= 0 && d < DEEDS_MOST) {
                facts[FACTS * d + what] = v;
            }
        }

        void add(int step, int glass) {
            if (size >= 0 && size < DEEDS_MOST) {
                write(size, STEP, step);
                write(size, BEFORE, glass);
                see(size, 0, NONE);
                size++;
            }
        }

        void see(int d, int shown, int broken) {
            write(d, SHOWN, shown);
            write(d, BROKEN, broken);
        }

        void cutTo(int n) {
            if (n >= 0 && n < size) {
                size = n;
            }
        }

        void takeAll(Deeds from) {
            size = from.size;
            if (size > 0 && size <= DEEDS_MOST) {
                System.arraycopy(from.facts, 0, facts, 0, FACTS * size);
            }
        }

        int howManyBefore(int glass) {
            int deeds = 0;
            for (int d = 0; d < size; d++) {
                if (fact(d, BEFORE) == glass) {
                    deeds++;
                }
            }
            return deeds;
        }

        int howManyBrokeBefore(int glass) {
            int deeds = 0;
            for (int d = 0; d < size; d++) {
                if (fact(d, BEFORE) == glass && fact(d, BROKEN) != NONE) {
                    deeds++;
                }
            }
            return deeds;
        }

        int howManyBroke(int from) {
            int deeds = 0;
            for (int d = from; d < size; d++) {
                if (fact(d, BROKEN) != NONE) {
                    deeds++;
                }
            }
            return deeds;
        }

        int firstThatBroke() {
            for (int d = 0; d < size; d++) {
                if (fact(d, BROKEN) != NONE) {
                    return d;
                }
            }
            return NONE;
        }

        int stepAt(int place) {
            return fact(place, STEP);
        }
    }

    /** A GLASS, by its KIND and DELAY; these are its LAW, so a ROOM's GLASSES are told by LAWS. */
    private static class Pane {
        private final int kind;
        private final int delay;

        Pane(int kind, int delay) {
            this.kind = kind;
            this.delay = delay;
        }

        final int kind() {
            return kind;
        }

        final int delay() {
            return delay;
        }

        /** Whether it IS of a KIND: its own one, or one that this is a sort of. */
        boolean isOf(int other) {
            return other == kind || other == GLASS;
        }

        /** The place (never a later one) of which the STEP is seen at a place; NOWHERE: 0 is SHOWN. */
        int source(int place) {
            return place;
        }

        /** Whether at a place what he thinks of is seen instead of what he does. */
        boolean thinks(int place) {
            return false;
        }

        static boolean isOdd(int place) {
            return (place & 1) == 1;
        }
    }

    private static class Late extends Pane {
        Late(int kind, int delay) {
            super(kind, delay);
        }

        int source(int place) {
            return place < delay() ? NOWHERE : place - delay();
        }

        boolean isOf(int other) {
            return other == LATE || super.isOf(other);
        }
    }

    private static final class Limp extends Late {
        Limp(int kind, int delay) {
            super(kind, delay);
        }

        int source(int place) {
            return placesToLimp(place) == 0 ? NOWHERE : super.source(place);
        }

        static int placesToLimp(int place) {
            return 2 - place % 3;
        }
    }

    private static class Thin extends Pane {
        Thin(int kind, int delay) {
            super(kind, delay);
        }

        int source(int place) {
            return isOdd(place) ? NOWHERE : place;
        }

        boolean isOf(int other) {
            return other == THIN || super.isOf(other);
        }
    }

    private static final class Friend extends Thin {
        Friend(int kind, int delay) {
            super(kind, delay);
        }

        int source(int place) {
            return place;
        }

        boolean thinks(int place) {
            return isOdd(place);
        }
    }

    private static final class Thought extends Pane {
        Thought(int kind, int delay) {
            super(kind, delay);
        }

        boolean thinks(int place) {
            return true;
        }
    }

    /** HABITS, GLASSES and TERMS, as a TEXT tells them. */
    private static final class Room {
        private final int[] habits = new int[STEPS];
        private final int[] glassLaws = new int[GLASSES_MOST];
        private int glasses = 0;
        private final int[] termSteps = new int[2 * TERMS_MOST];
        private int terms = 0;

        int glasses() {
            return glasses;
        }

        int terms() {
            return terms;
        }

        int lawOf(int k) {
            return k >= 0 && k < glasses ? glassLaws[k] : 0;
        }

        int termStep(int n, int which) {
            return n >= 0 && n < terms ? termSteps[2 * n + (which & 1)] : 0;
        }

        int thought(int step) {
            return isStep(step) ? habits[step] : 0;
        }

        /** What a GLASS SHOWS at a place, if this is the STEP seen there. */
        int seen(Pane pane, int place, int step) {
            int face = pane.thinks(place) ? thought(step) : step;
            return face == 1 || face == 2 ? 3 - face : face;
        }

        int shown(Pane pane, Doings doings, int place) {
            int source = pane.source(place);
            return source == NOWHERE ? 0 : seen(pane, place, doings.stepAt(source));
        }

        int stepsSeenAs(Pane pane, int place, int shown) {
            int bits = 0;
            for (int step = 0; step < STEPS; step++) {
                if (seen(pane, place, step) == shown) {
                    bits |= 1 << step;
                }
            }
            return bits;
        }

        int firstBroken(int step, int shown) {
            for (int n = 0; n < terms; n++) {
                if (termSteps[2 * n] == step && termSteps[2 * n + 1] == shown) {
                    return n;
                }
            }
            return NONE;
        }

        boolean isBroken(int step, int shown) {
            return firstBroken(step, shown) != NONE;
        }

        /** Becomes the ROOM of a TEXT: NONE, or the FAULT, behind which the ROOM is of no use. */
        int read(Cells text) {
            glasses = 0;
            terms = 0;
            int i = afterBlanks(text, 0);
            if (i >= text.size() || text.get(i) != LETTER_HABITS) {
                return i;
            }
            i++;
            for (int step = 0; step < STEPS; step++) {
                if (!isFigure(text, i, STEPS)) {
                    return i;
                }
                habits[step] = text.get(i) - FIGURE_0;
                i++;
            }
            return readItems(text, i);
        }

        private int readItems(Cells text, int from) {
            int i = afterBlanks(text, from);
            for (int items = 0; items < TEXT_MOST && i < text.size(); items++) {
                boolean isTerm = text.get(i) == LETTER_TERM;
                int bad = isTerm ? readTerm(text, i) : readGlass(text, i);
                if (bad != NONE) {
                    return bad;
                }
                i = afterBlanks(text, i + (isTerm ? 3 : 2));
            }
            return glasses == 0 ? text.size() : NONE;
        }

        private int readGlass(Cells text, int i) {
            int kind = kindOf(text.get(i));
            if (kind == NONE || terms > 0 || glasses >= GLASSES_MOST) {
                return i;
            }
            if (!isFigure(text, i + 1, DELAYS)) {
                return i + 1;
            }
            glassLaws[glasses] = DELAYS * kind + text.get(i + 1) - FIGURE_0;
            glasses++;
            return NONE;
        }

        private int readTerm(Cells text, int i) {
            if (glasses == 0 || terms >= TERMS_MOST) {
                return i;
            }
            for (int which = 0; which < 2; which++) {
                int place = i + 1 + which;
                if (!isFigure(text, place, STEPS)) {
                    return place;
                }
                termSteps[2 * terms + which] = text.get(place) - FIGURE_0;
            }
            terms++;
            return NONE;
        }

        private static int kindOf(int letter) {
            for (int kind = GLASS; kind < KINDS; kind++) {
                if (KIND_LETTERS[kind] == letter) {
                    return kind;
                }
            }
            return NONE;
        }

        private static int afterBlanks(Cells text, int from) {
            int i = from;
            while (i < text.size() && text.get(i) == BLANK) {
                i++;
            }
            return i;
        }

        private static boolean isFigure(Cells text, int i, int below) {
            return text.has(i) && text.get(i) >= FIGURE_0 && text.get(i) < FIGURE_0 + below;
        }
    }

    /**
     * The DOINGS of n STEPS that break no TERM before a GLASS. A place hangs on its source alone,
     * and is itself the source of one later place, its heir, at most: so the places are chains,
     * and what can follow is known place by place from the last one back, without trying all rows.
     */
    private static final class Chains {
        private static final int MUCH = 1000;

        private final int[] rowsFrom = new int[KEEPS_MOST * STEPS];
        private final int[] stillFrom = new int[KEEPS_MOST * STEPS];
        private int rows = 1;
        private int fewest = 0;
        private int firsts = 0;

        int rows() {
            return rows;
        }

        int fewestStill() {
            return fewest;
        }

        int firstSteps() {
            return firsts;
        }

        void weigh(Room room, Pane pane, int n) {
            rows = 1;
            fewest = 0;
            firsts = 0;
            for (int place = Math.min(n, KEEPS_MOST) - 1; place >= 0; place--) {
                int heir = heirOf(pane, place, n);
                for (int step = 0; step < STEPS; step++) {
                    weighStep(room, pane, place, heir, step);
                }
                if (isHead(pane, place)) {
                    addChain(place);
                }
            }
            if (rows == 0) {
                firsts = 0;
            }
        }

        /** A head SHOWS nothing of an earlier place, so a chain begins there; place 0 is always one. */
        private static boolean isHead(Pane pane, int place) {
            int source = pane.source(place);
            return source == NOWHERE || source == place;
        }

        private static int heirOf(Pane pane, int place, int n) {
            for (int later = place + 1; later < n && later < KEEPS_MOST; later++) {
                if (pane.source(later) == place) {
                    return later;
                }
            }
            return NOWHERE;
        }

        private void weighStep(Room room, Pane pane, int place, int heir, int step) {
            int ways = heir == NOWHERE ? 1 : 0;
            int still = heir == NOWHERE ? 0 : MUCH;
            if (heir != NOWHERE) {
                int shown = room.seen(pane, heir, step);
                for (int then = 0; then < STEPS; then++) {
                    if (!room.isBroken(then, shown)) {
                        ways += rowsFrom[heir * STEPS + then];
                        still = Math.min(still, stillFrom[heir * STEPS + then]);
                    }
                }
            }
            if (isHead(pane, place) && room.isBroken(step, shownAtHead(room, pane, place, step))) {
                ways = 0;
            }
            rowsFrom[place * STEPS + step] = ways;
            stillFrom[place * STEPS + step] = ways == 0 ? MUCH : still + (step == 0 ? 1 : 0);
        }

        private static int shownAtHead(Room room, Pane pane, int place, int step) {
            return pane.source(place) == NOWHERE ? 0 : room.seen(pane, place, step);
        }

        private void addChain(int head) {
            int ways = 0;
            int still = MUCH;
            firsts = 0;
            for (int step = 0; step < STEPS; step++) {
                int from = rowsFrom[head * STEPS + step];
                ways += from;
                still = Math.min(still, stillFrom[head * STEPS + step]);
                firsts |= from > 0 ? 1 << step : 0;
            }
            rows *= ways;
            fewest += still;
        }
    }
}
