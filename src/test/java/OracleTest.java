import java.math.BigInteger;
import java.util.Arrays;
import java.util.Random;

/**
 * The calls on rows and turns (promises 13, 16, 22 to 24, 26 to 37) against the plainest reading
 * of the document: every row is tried, nothing is worked out ahead. Rooms come from a fixed seed.
 */
public final class OracleTest {
    private static final Checks c = new Checks();
    private static final String LETTERS = "gltoif";

    private final int[] habits = new int[6];
    private final int[] kinds;
    private final int[] delays;
    private final int[][] terms;
    private final String text;
    private LimpMirror x;

    private OracleTest(Random random) {
        StringBuilder b = new StringBuilder("h");
        int thoughts = 1 + random.nextInt(6);
        for (int s = 0; s < 6; s++) {
            habits[s] = random.nextInt(thoughts);
            b.append(habits[s]);
        }
        kinds = new int[1 + random.nextInt(6)];
        delays = new int[kinds.length];
        for (int k = 0; k < kinds.length; k++) {
            kinds[k] = random.nextInt(6);
            delays[k] = random.nextInt(4);
            b.append(LETTERS.charAt(kinds[k])).append(delays[k]);
        }
        terms = new int[random.nextInt(9)][2];
        for (int[] term : terms) {
            term[0] = random.nextInt(6);
            term[1] = random.nextInt(3) == 0 ? 0 : random.nextInt(6);
            b.append('n').append(term[0]).append(term[1]);
        }
        text = b.toString();
        anew();
    }

    /** Nothing is promised of an object after its 512th call. */
    private void anew() {
        x = Checks.roomOf(text);
    }

    public static void main(String[] args) {
        Random random = new Random(45);
        for (int i = 0; i < 60; i++) {
            OracleTest room = new OracleTest(random);
            room.deeds(random);
            for (int k = 0; k < room.kinds.length; k++) {
                room.anew();
                room.oneRow(k, random);
                room.whatWasDone(k, random);
                room.keepsAndStill(k);
            }
            room.anew();
            for (int j = 0; j < 6; j++) {
                room.lawsAndNext(random);
            }
            room.turns();
        }
        c.end();
    }

    // ---- the plain reading

    private static int mirrored(int step) {
        return step == 1 ? 2 : step == 2 ? 1 : step;
    }

    private int shown(int kind, int delay, int[] doings, int i) {
        int late = i - delay < 0 ? 0 : doings[i - delay];
        switch (kind) {
            case 0: return mirrored(doings[i]);
            case 1: return mirrored(late);
            case 2: return i % 2 == 1 ? 0 : mirrored(doings[i]);
            case 3: return mirrored(habits[doings[i]]);
            case 4: return i % 3 == 2 ? 0 : mirrored(late);
            default: return i % 2 == 1 ? mirrored(habits[doings[i]]) : mirrored(doings[i]);
        }
    }

    private int[] allShown(int k, int[] doings) {
        int[] all = new int[doings.length];
        for (int i = 0; i < all.length; i++) {
            all[i] = shown(kinds[k], delays[k], doings, i);
        }
        return all;
    }

    private boolean isBroken(int step, int shown) {
        for (int[] term : terms) {
            if (term[0] == step && term[1] == shown) {
                return true;
            }
        }
        return false;
    }

    private boolean breaksNone(int k, int[] doings) {
        int[] all = allShown(k, doings);
        for (int i = 0; i < doings.length; i++) {
            if (isBroken(doings[i], all[i])) {
                return false;
            }
        }
        return true;
    }

    /** Row number n of all rows of a size, as they go. */
    private static int[] rowNumber(int n, int size) {
        int[] row = new int[size];
        int rest = n;
        for (int i = size - 1; i >= 0; i--) {
            row[i] = rest % 6;
            rest /= 6;
        }
        return row;
    }

    private static int howManyRows(int size) {
        int rows = 1;
        for (int i = 0; i < size; i++) {
            rows *= 6;
        }
        return rows;
    }

    private static int[] anyRow(Random random, int size, int below) {
        int[] row = new int[size];
        for (int i = 0; i < size; i++) {
            row[i] = random.nextInt(below);
        }
        return row;
    }

    private static String told(int[] row) {
        StringBuilder b = new StringBuilder();
        for (int i = 0; i < row.length; i++) {
            b.append(i == 0 ? "" : " ").append(row[i]);
        }
        return b.toString();
    }

    private String call(String name, int k, int[] row) {
        return text + ": " + name + " before " + k + " of " + Arrays.toString(row);
    }

    // ---- what is compared

    private void deeds(Random random) {
        int[] doings = anyRow(random, 10, 6);
        for (int i = 0; i < doings.length; i++) {
            int k = random.nextInt(kinds.length);
            marks(doings, i);
            int want = shown(kinds[k], delays[k], doings, i);
            c.due(call("step " + i, k, doings), x.step(k, doings[i]), want);
            c.asked(call("deed " + i, k, doings), x, x.deed(i, 2), 1, want);
        }
        x.undo(0);
    }

    private void marks(int[] doings, int deeds) {
        int[] still = Arrays.copyOf(doings, deeds + 1);
        still[deeds] = 0;
        for (int k = 0; k < kinds.length; k++) {
            if (kinds[k] == 1 || kinds[k] == 4) {
                int next = shown(kinds[k], delays[k], still, deeds);
                c.due(call("mark late", k, still), x.mark(k, 1), delays[k] == 0 ? -9 : next);
            }
            if (kinds[k] == 2 || kinds[k] == 5) {
                int noughts = 0;
                for (int i = 0; i < deeds; i++) {
                    noughts += shown(kinds[k], delays[k], doings, i) == 0 ? 1 : 0;
                }
                c.due(call("mark thin", k, still), x.mark(k, 2), noughts);
            }
            if (kinds[k] == 5) {
                c.due(call("mark friend", k, still), x.mark(k, 5), shown(5, delays[k], still, deeds));
            }
        }
    }

    private void oneRow(int k, Random random) {
        int[] doings = anyRow(random, random.nextInt(13), 6);
        int[] all = allShown(k, doings);
        Checks.fill(x, 0, doings);
        c.due(call("show", k, doings), x.show(k, 0, 1), doings.length);
        c.due(call("what show shows", k, doings), Checks.rowOf(x, 1), told(all));
        int first = -9;
        int broken = 0;
        int alike = 0;
        for (int i = doings.length - 1; i >= 0; i--) {
            if (isBroken(doings[i], all[i])) {
                first = i;
                broken++;
            }
            alike += doings[i] == all[i] ? 1 : 0;
        }
        c.asked(call("breaks", k, doings), x, x.breaks(k, 0), first, broken);
        c.due(call("alike", k, doings), x.alike(k, 0), alike);
        int size = Math.min(doings.length, 8);
        puddles(k, Arrays.copyOf(doings, size), random.nextInt(13));
    }

    /** Every way in which the puddles may lie, by its weight. */
    private void puddles(int k, int[] doings, int p) {
        int[] all = allShown(k, doings);
        long good = 0;
        long sum = 0;
        long weights = 0;
        for (int wet = 0; wet < 1 << doings.length; wet++) {
            long weight = 1;
            int broken = 0;
            for (int i = 0; i < doings.length; i++) {
                boolean isWet = (wet >> i & 1) == 1;
                weight *= isWet ? p : 12 - p;
                broken += isBroken(doings[i], isWet ? 0 : all[i]) ? 1 : 0;
            }
            good += broken == 0 ? weight : 0;
            sum += broken * weight;
            weights += weight;
        }
        Checks.fill(x, 0, doings);
        chance(call("odds " + p, k, doings), x.odds(k, 0, p), good, weights);
        chance(call("mid " + p, k, doings), x.mid(k, 0, p), sum, weights);
    }

    private void chance(String call, int got, long upper, long lower) {
        long divisor = BigInteger.valueOf(upper).gcd(BigInteger.valueOf(lower)).longValue();
        c.told(call, x, got, upper / divisor, lower / divisor);
    }

    private void whatWasDone(int k, Random random) {
        int size = random.nextInt(5);
        int[] shown = random.nextInt(3) > 0 ? allShown(k, anyRow(random, size, 6)) : anyRow(random, size, 3);
        long ways = 0;
        int[] first = null;
        int[] can = new int[size];
        for (int n = 0; n < howManyRows(size); n++) {
            int[] doings = rowNumber(n, size);
            if (Arrays.equals(allShown(k, doings), shown)) {
                ways++;
                first = first == null ? doings : first;
                for (int i = 0; i < size; i++) {
                    can[i] |= 1 << doings[i];
                }
            }
        }
        Checks.fill(x, 0, shown);
        c.told(call("ways", k, shown), x, x.ways(k, 0), ways, 1);
        x.tear(1);
        c.due(call("first", k, shown), x.first(k, 0, 1), first == null ? -9 : size);
        c.due(call("what first is", k, shown), Checks.rowOf(x, 1), first == null ? "-" : told(first));
        for (int i = 0; i < size; i++) {
            c.due(call("can " + i, k, shown), x.can(k, 0, i), can[i]);
        }
    }

    private void keepsAndStill(int k) {
        for (int size = 0; size <= 5; size++) {
            long keeps = 0;
            int firsts = 0;
            int still = -9;
            for (int n = 0; n < howManyRows(size); n++) {
                int[] doings = rowNumber(n, size);
                if (breaksNone(k, doings)) {
                    keeps++;
                    firsts |= size == 0 ? 0 : 1 << doings[0];
                    int noughts = (int) Arrays.stream(doings).filter(s -> s == 0).count();
                    still = still == -9 ? noughts : Math.min(still, noughts);
                }
            }
            c.told(call("keeps " + size, k, kinds), x, x.keeps(k, size), keeps, 1);
            c.due(call("firsts " + size, k, kinds), x.asked(), firsts);
            c.due(call("still " + size, k, kinds), x.still(k, size), still);
        }
    }

    private void lawsAndNext(Random random) {
        int size = random.nextInt(5);
        int law = random.nextInt(24);
        int[] doings = anyRow(random, size, 3 + random.nextInt(4));
        int[] shown = new int[size];
        for (int i = 0; i < size; i++) {
            shown[i] = random.nextInt(30) == 0 ? 0 : shown(law / 4, law % 4, doings, i);
        }
        int laws = 0;
        for (int other = 0; other < 24; other++) {
            boolean fits = true;
            for (int i = 0; i < size; i++) {
                fits &= shown(other / 4, other % 4, doings, i) == shown[i];
            }
            laws |= fits ? 1 << other : 0;
        }
        Checks.fill(x, 0, doings);
        Checks.fill(x, 1, shown);
        String call = text + ": " + Arrays.toString(doings) + " shown " + Arrays.toString(shown);
        c.due(call + ": laws", x.laws(0, 1), laws);
        next(call, doings, laws);
        which(call, doings, shown);
    }

    private void next(String call, int[] doings, int laws) {
        int[] more = Arrays.copyOf(doings, doings.length + 1);
        int best = -9;
        int fewest = 99;
        for (int s = 5; s >= 0; s--) {
            more[doings.length] = s;
            int[] tally = new int[6];
            for (int law = 0; law < 24; law++) {
                if ((laws >> law & 1) == 1) {
                    tally[shown(law / 4, law % 4, more, doings.length)]++;
                }
            }
            int most = Arrays.stream(tally).max().getAsInt();
            if (most <= fewest) {
                fewest = most;
                best = s;
            }
        }
        int before = x.asked();
        boolean isOpen = Integer.bitCount(laws) >= 2;
        c.asked(call + ": next", x, x.next(0, 1), isOpen ? best : -9, isOpen ? fewest : before);
    }

    private void which(String call, int[] one, int[] other) {
        for (int k = 0; k < kinds.length; k++) {
            int[] ofOne = allShown(k, one);
            int[] ofOther = allShown(k, other);
            int answer = (Arrays.equals(ofOne, other) ? 1 : 0) | (Arrays.equals(ofOther, one) ? 2 : 0);
            int place = -9;
            for (int i = one.length - 1; i >= 0; i--) {
                place = ofOne[i] != other[i] || ofOther[i] != one[i] ? i : place;
            }
            c.asked(call + ": he " + k, x, x.he(k, 0, 1), answer, place);
        }
    }

    private void turns() {
        for (int n = 0; n <= 3; n++) {
            c.due(text + ": game " + n, x.game(n), wins(new int[n], 0) ? 1 : 0);
            if (n > 0) {
                int pick = -9;
                int[] doings = new int[n];
                for (int s = 5; s >= 0; s--) {
                    doings[0] = s;
                    pick = survivesAll(doings, 0) ? s : pick;
                }
                c.due(text + ": picks " + n, x.picks(n), pick);
            }
        }
    }

    private boolean wins(int[] doings, int turn) {
        if (turn == doings.length) {
            return true;
        }
        boolean any = false;
        for (int s = 0; s < 6; s++) {
            doings[turn] = s;
            any |= survivesAll(doings, turn);
        }
        return any;
    }

    /** The other one tries every glass, and he goes on behind each as best he can. */
    private boolean survivesAll(int[] doings, int turn) {
        boolean all = true;
        for (int k = 0; k < kinds.length; k++) {
            int[] now = doings.clone();
            all &= !isBroken(now[turn], shown(kinds[k], delays[k], now, turn)) && wins(now, turn + 1);
        }
        return all;
    }
}
