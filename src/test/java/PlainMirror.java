import java.math.BigInteger;
import java.nio.charset.StandardCharsets;
import java.util.ArrayList;
import java.util.List;
import java.util.function.Consumer;
import java.util.function.IntSupplier;
import java.util.regex.Matcher;
import java.util.regex.Pattern;

/**
 * The document once more, read off promise by promise in the plainest way, for PlainTest alone: whatever
 * can be tried out is tried out, nothing that follows from something else is held, a refusal is thrown.
 * It shares nothing with the class, so that one slip does not stand in both.
 */
final class PlainMirror {
    private static final int BAD = -1, FULL = -2, FINDING = -3, STATE = -4, NONE = -9;
    private static final int NOTHING = 1, BEYOND = 2, UNLIKE = 3, NOUGHT = 4, SIZE = 5;
    private static final String KINDS = "gltoif";
    private static final Pattern ROOM =
            Pattern.compile(" *h[0-5]{6}(?: *[gltoif][0-3]){1,6}(?: *n[0-5][0-5]){0,8} *");

    private final int[][] rows = new int[6][];
    private final byte[][] texts = new byte[4][];
    private String habits = "000000";
    private List<String> glasses = List.of();
    private List<String> terms = List.of();
    private List<int[]> deeds = new ArrayList<>();
    private final List<List<int[]>> kept = new ArrayList<>();
    private int asked = 0;
    private BigInteger upper = BigInteger.ZERO;
    private BigInteger lower = BigInteger.ONE;
    private final List<Integer> found = new ArrayList<>();

    PlainMirror() {
        forgetKept();
    }

    private static final class Refused extends RuntimeException {
        private static final long serialVersionUID = 1;
        private final int answer;
        private final int finding;

        Refused(int answer, int finding) {
            super(null, null, false, false);
            this.answer = answer;
            this.finding = finding;
        }
    }

    private int answer(IntSupplier call) {
        try {
            return call.getAsInt();
        } catch (Refused refused) {
            if (refused.answer == FINDING) {
                found.add(refused.finding);
            }
            return refused.answer;
        }
    }

    private static void badIf(boolean fits) {
        refuseIf(fits, BAD, 0);
    }

    private static void findIf(boolean fits, int finding) {
        refuseIf(fits, FINDING, finding);
    }

    private static void refuseIf(boolean fits, int answer, int finding) {
        if (fits) {
            throw new Refused(answer, finding);
        }
    }

    // ---- 1 rows, texts, rooms

    int row(int r, int n) {
        return answer(() -> {
            badIf(none(r, rows.length) || n > 40);
            findIf(n < 0, SIZE);
            rows[r] = new int[n];
            return n;
        });
    }

    int lay(int r, int i, int v) {
        return answer(() -> {
            badIf(none(r, rows.length));
            findIf(rows[r] == null, NOTHING);
            findIf(none(i, rows[r].length), BEYOND);
            asked = rows[r][i];
            rows[r][i] = v;
            return 1;
        });
    }

    int at(int r, int i) {
        return answer(() -> {
            badIf(none(r, rows.length));
            findIf(rows[r] == null, NOTHING);
            findIf(none(i, rows[r].length), BEYOND);
            asked = rows[r][i];
            return 1;
        });
    }

    int tear(int r) {
        return answer(() -> {
            badIf(none(r, rows.length));
            findIf(rows[r] == null, NOTHING);
            rows[r] = null;
            return 1;
        });
    }

    int copy(int r, int i, int to, int j, int n) {
        return answer(() -> {
            badIf(none(r, rows.length) || none(to, rows.length));
            findIf(n < 0, SIZE);
            findIf(rows[r] == null || rows[to] == null, NOTHING);
            findIf(i < 0 || (long) i + n > rows[r].length, BEYOND);
            findIf(j < 0 || (long) j + n > rows[to].length, BEYOND);
            int[] taken = rows[r].clone();
            for (int place = 0; place < n; place++) {
                rows[to][j + place] = taken[i + place];
            }
            return 1;
        });
    }

    int mean(int r) {
        return answer(() -> {
            badIf(none(r, rows.length));
            findIf(rows[r] == null, NOTHING);
            findIf(rows[r].length == 0, NOUGHT);
            BigInteger sum = BigInteger.ZERO;
            for (int v : rows[r]) {
                sum = sum.add(BigInteger.valueOf(v));
            }
            asked = sum.divide(BigInteger.valueOf(rows[r].length)).intValueExact();
            return 1;
        });
    }

    int text(int t, int n) {
        return answer(() -> {
            badIf(none(t, texts.length) || n > 60);
            findIf(n < 0, SIZE);
            texts[t] = " ".repeat(n).getBytes(StandardCharsets.ISO_8859_1);
            return n;
        });
    }

    int put(int t, int i, int v) {
        return answer(() -> {
            badIf(none(t, texts.length));
            findIf(texts[t] == null, NOTHING);
            findIf(none(i, texts[t].length), BEYOND);
            int was = texts[t][i];
            texts[t][i] = (byte) v;
            return 1000 + was;
        });
    }

    int fault(int t) {
        return answer(() -> {
            badIf(none(t, texts.length));
            findIf(texts[t] == null, NOTHING);
            return faultOf(new String(texts[t], StandardCharsets.ISO_8859_1));
        });
    }

    /** The first place with which no room can begin any more; the size, if one could still go on there. */
    private static int faultOf(String text) {
        for (int i = 0; i < text.length(); i++) {
            Matcher begun = ROOM.matcher(text.substring(0, i + 1));
            if (!begun.matches() && !begun.hitEnd()) {
                return i;
            }
        }
        return ROOM.matcher(text).matches() ? NONE : text.length();
    }

    int room(int t) {
        return answer(() -> {
            badIf(none(t, texts.length));
            findIf(texts[t] == null, NOTHING);
            String text = new String(texts[t], StandardCharsets.ISO_8859_1);
            refuseIf(faultOf(text) != NONE, STATE, 0);
            String items = text.replace(" ", "");
            habits = items.substring(1, 7);
            glasses = all(items, "[gltoif][0-3]");
            terms = all(items, "n[0-5][0-5]");
            deeds = new ArrayList<>();
            forgetKept();
            return glasses.size();
        });
    }

    private void forgetKept() {
        kept.clear();
        for (int place = 0; place < 3; place++) {
            kept.add(null);
        }
    }

    private static List<String> all(String text, String pattern) {
        List<String> found = new ArrayList<>();
        Matcher m = Pattern.compile(pattern).matcher(text);
        while (m.find()) {
            found.add(m.group());
        }
        return found;
    }

    int glass(int k, int what) {
        return answer(() -> {
            badIf(none(k, glasses.size()) || none(what, 4));
            asked = ofGlass(k, what);
            return 1;
        });
    }

    private int ofGlass(int k, int what) {
        if (what < 2) {
            return what == 0 ? kind(k) : delay(k);
        }
        int many = 0;
        for (int d = 0; d < deeds.size(); d++) {
            if (deeds.get(d)[1] == k && (what == 2 || brokenAt(d) != NONE)) {
                many++;
            }
        }
        return many;
    }

    int mark(int k, int kind) {
        return answer(() -> {
            badIf(none(k, glasses.size()) || kind < 1 || kind > 5);
            int own = kind(k);
            findIf(!(own == kind || own == 4 && kind == 1 || own == 5 && kind == 2), UNLIKE);
            return markOf(k, kind);
        });
    }

    private int markOf(int k, int kind) {
        int next = deeds.size();
        int many = 0;
        switch (kind) {
            case 1:
                return delay(k) == 0 ? NONE : shown(own(k), and(doings(), 0), next);
            case 2:
                for (int i = 0; i < next; i++) {
                    many += shown(own(k), doings(), i) == 0 ? 1 : 0;
                }
                return many;
            case 3:
                for (int step = 0; step < 6; step++) {
                    many += shown(own(k), new int[] {step}, 0) == 0 ? 1 : 0;
                }
                return many;
            case 4:
                while ((next + many) % 3 != 2) {
                    many++;
                }
                return many;
            default:
                return shown(own(k), and(doings(), 0), next);
        }
    }

    int habit(int step) {
        return answer(() -> {
            badIf(none(step, 6));
            return figure(habits, step);
        });
    }

    int term(int n, int which) {
        return answer(() -> {
            badIf(none(n, terms.size()) || none(which, 2));
            return figure(terms.get(n), 1 + which);
        });
    }

    // ---- what is shown, which term is broken

    private static boolean none(int number, int many) {
        return number < 0 || number >= many;
    }

    private static int figure(String text, int i) {
        return text.charAt(i) - '0';
    }

    private int kind(int k) {
        return KINDS.indexOf(glasses.get(k).charAt(0));
    }

    private int delay(int k) {
        return figure(glasses.get(k), 1);
    }

    private int own(int k) {
        return 4 * kind(k) + delay(k);
    }

    private int[] doings() {
        return deeds.stream().mapToInt(d -> d[0]).toArray();
    }

    private static int[] and(int[] doings, int step) {
        int[] more = java.util.Arrays.copyOf(doings, doings.length + 1);
        more[doings.length] = step;
        return more;
    }

    private int shown(int law, int[] doings, int i) {
        char letter = KINDS.charAt(law / 4);
        boolean isLate = letter == 'l' || letter == 'i';
        int place = isLate ? i - law % 4 : i;
        int step = place < 0 ? 0 : doings[place];
        if (letter == 't' && i % 2 == 1 || letter == 'i' && i % 3 == 2) {
            return 0;
        }
        if (letter == 'o' || letter == 'f' && i % 2 == 1) {
            step = figure(habits, step);
        }
        return "021345".charAt(step) - '0';
    }

    private int[] shownOf(int law, int[] doings) {
        int[] all = new int[doings.length];
        for (int i = 0; i < all.length; i++) {
            all[i] = shown(law, doings, i);
        }
        return all;
    }

    private int brokenBy(int step, int shown) {
        int first = terms.indexOf("n" + step + shown);
        return first < 0 ? NONE : first;
    }

    private int brokenAt(int d) {
        return brokenBy(deeds.get(d)[0], shown(own(deeds.get(d)[1]), doings(), d));
    }

    private int brokenPlaces(int law, int[] doings) {
        int many = 0;
        for (int i = 0; i < doings.length; i++) {
            many += brokenBy(doings[i], shown(law, doings, i)) == NONE ? 0 : 1;
        }
        return many;
    }

    // ---- 2 deeds

    int step(int k, int step) {
        return answer(() -> {
            badIf(none(k, glasses.size()) || none(step, 6));
            refuseIf(deeds.size() == 40, FULL, 0);
            deeds.add(new int[] {step, k});
            return shown(own(k), doings(), deeds.size() - 1);
        });
    }

    int deed(int d, int what) {
        return answer(() -> {
            badIf(none(d, deeds.size()) || none(what, 4));
            asked = ofDeed(d, what);
            return 1;
        });
    }

    private int ofDeed(int d, int what) {
        switch (what) {
            case 2: return shown(own(deeds.get(d)[1]), doings(), d);
            case 3: return brokenAt(d);
            default: return deeds.get(d)[what];
        }
    }

    int broken() {
        int many = 0;
        asked = NONE;
        for (int d = deeds.size() - 1; d >= 0; d--) {
            if (brokenAt(d) != NONE) {
                many++;
                asked = d;
            }
        }
        return many;
    }

    int undo(int n) {
        return answer(() -> {
            badIf(n < 0 || n > deeds.size());
            int many = deeds.size() - n;
            deeds = new ArrayList<>(deeds.subList(0, n));
            return many;
        });
    }

    int keep(int k) {
        return answer(() -> {
            badIf(none(k, 3));
            refuseIf(glasses.isEmpty(), STATE, 0);
            kept.set(k, new ArrayList<>(deeds));
            return deeds.size();
        });
    }

    int on(int k) {
        return answer(() -> {
            badIf(none(k, 3));
            findIf(kept.get(k) == null, NOTHING);
            deeds = new ArrayList<>(kept.get(k));
            return deeds.size();
        });
    }

    // ---- 3 what is shown

    private int[] steps(int r, int most) {
        findIf(rows[r] == null, NOTHING);
        findIf(rows[r].length > most, SIZE);
        for (int step : rows[r]) {
            findIf(none(step, 6), UNLIKE);
        }
        return rows[r].clone();
    }

    private void badRowOf(int k, int... numbers) {
        badIf(none(k, glasses.size()));
        for (int r : numbers) {
            badIf(none(r, rows.length));
        }
    }

    int show(int k, int r, int to) {
        return answer(() -> {
            badRowOf(k, r, to);
            rows[to] = shownOf(own(k), steps(r, 12));
            return rows[to].length;
        });
    }

    int breaks(int k, int r) {
        return answer(() -> {
            badRowOf(k, r);
            int[] doings = steps(r, 12);
            asked = brokenPlaces(own(k), doings);
            for (int i = 0; i < doings.length; i++) {
                if (brokenBy(doings[i], shown(own(k), doings, i)) != NONE) {
                    return i;
                }
            }
            return NONE;
        });
    }

    int alike(int k, int r) {
        return answer(() -> {
            badRowOf(k, r);
            int[] doings = steps(r, 12);
            int[] shown = shownOf(own(k), doings);
            return doings.length - unlikePlaces(doings, shown).size();
        });
    }

    private static List<Integer> unlikePlaces(int[] one, int[] other) {
        List<Integer> places = new ArrayList<>();
        for (int i = 0; i < one.length; i++) {
            if (one[i] != other[i]) {
                places.add(i);
            }
        }
        return places;
    }

    int fit(int r, int q) {
        return answer(() -> {
            badIf(none(r, rows.length) || none(q, rows.length));
            int[] one = steps(r, 12);
            int[] other = steps(q, 12);
            findIf(one.length != other.length, SIZE);
            List<Integer> places = unlikePlaces(one, other);
            asked = places.isEmpty() ? NONE : places.get(0);
            return places.size();
        });
    }

    // ---- 4 what was done

    /** Every row of a size, as they go. */
    private static void each(int size, Consumer<int[]> then) {
        int many = (int) Math.pow(6, size);
        for (int number = 0; number < many; number++) {
            int[] row = new int[size];
            int rest = number;
            for (int i = size - 1; i >= 0; i--) {
                row[i] = rest % 6;
                rest /= 6;
            }
            then.accept(row);
        }
    }

    private List<int[]> doingsThatShow(int k, int[] shown) {
        List<int[]> all = new ArrayList<>();
        each(shown.length, doings -> {
            if (unlikePlaces(shownOf(own(k), doings), shown).isEmpty()) {
                all.add(doings);
            }
        });
        return all;
    }

    int ways(int k, int r) {
        return answer(() -> {
            badRowOf(k, r);
            tell(doingsThatShow(k, steps(r, 6)).size(), 1);
            return 1;
        });
    }

    int first(int k, int r, int to) {
        return answer(() -> {
            badRowOf(k, r, to);
            List<int[]> all = doingsThatShow(k, steps(r, 6));
            if (all.isEmpty()) {
                return NONE;
            }
            rows[to] = all.get(0);
            return rows[to].length;
        });
    }

    int can(int k, int r, int place) {
        return answer(() -> {
            badRowOf(k, r);
            badIf(place < 0);
            int[] shown = steps(r, 6);
            badIf(place >= shown.length);
            int bits = 0;
            for (int[] doings : doingsThatShow(k, shown)) {
                bits |= 1 << doings[place];
            }
            return bits;
        });
    }

    // ---- 5 laws of a glass

    int laws(int r, int q) {
        return answer(() -> {
            badIf(none(r, rows.length) || none(q, rows.length));
            int[] doings = steps(r, 12);
            int[] shown = steps(q, 12);
            findIf(doings.length != shown.length, SIZE);
            return lawsOf(doings, shown).stream().mapToInt(law -> 1 << law).sum();
        });
    }

    private List<Integer> lawsOf(int[] doings, int[] shown) {
        List<Integer> all = new ArrayList<>();
        for (int law = 0; law < 24; law++) {
            if (unlikePlaces(shownOf(law, doings), shown).isEmpty()) {
                all.add(law);
            }
        }
        return all;
    }

    int next(int r, int q) {
        return answer(() -> {
            badIf(none(r, rows.length) || none(q, rows.length));
            int[] doings = steps(r, 11);
            int[] shown = steps(q, 11);
            findIf(doings.length != shown.length, SIZE);
            List<Integer> laws = lawsOf(doings, shown);
            if (laws.size() < 2) {
                return NONE;
            }
            asked = 24;
            int best = 0;
            for (int step = 5; step >= 0; step--) {
                int most = mostAlike(laws, and(doings, step));
                if (most <= asked) {
                    asked = most;
                    best = step;
                }
            }
            return best;
        });
    }

    private int mostAlike(List<Integer> laws, int[] doings) {
        long most = 0;
        for (int thing = 0; thing < 6; thing++) {
            int shown = thing;
            most = Math.max(most, laws.stream().filter(law -> shown(law, doings, doings.length - 1) == shown).count());
        }
        return (int) most;
    }

    int he(int k, int r, int q) {
        return answer(() -> {
            badRowOf(k, r, q);
            int[] one = steps(r, 12);
            int[] other = steps(q, 12);
            findIf(one.length != other.length, SIZE);
            List<Integer> notOne = unlikePlaces(shownOf(own(k), one), other);
            List<Integer> notOther = unlikePlaces(shownOf(own(k), other), one);
            asked = NONE;
            for (int i = one.length - 1; i >= 0; i--) {
                if (notOne.contains(i) || notOther.contains(i)) {
                    asked = i;
                }
            }
            return (notOne.isEmpty() ? 1 : 0) + (notOther.isEmpty() ? 2 : 0);
        });
    }

    // ---- 6 rows that break no term, turns

    private List<int[]> doingsThatBreakNone(int k, int n) {
        List<int[]> all = new ArrayList<>();
        each(n, doings -> {
            if (brokenPlaces(own(k), doings) == 0) {
                all.add(doings);
            }
        });
        return all;
    }

    int keeps(int k, int n) {
        return answer(() -> {
            badIf(none(k, glasses.size()) || n < 0 || n > 5);
            List<int[]> all = doingsThatBreakNone(k, n);
            tell(all.size(), 1);
            asked = 0;
            for (int[] doings : all) {
                asked |= n == 0 ? 0 : 1 << doings[0];
            }
            return 1;
        });
    }

    int still(int k, int n) {
        return answer(() -> {
            badIf(none(k, glasses.size()) || n < 0 || n > 5);
            return doingsThatBreakNone(k, n).stream()
                    .mapToInt(doings -> n - unlikePlaces(doings, new int[n]).size()).min().orElse(NONE);
        });
    }

    int game(int n) {
        return answer(() -> {
            badIf(n < 0 || n > 3);
            refuseIf(glasses.isEmpty(), STATE, 0);
            return n == 0 || pick(new int[0], n) != NONE ? 1 : 0;
        });
    }

    int picks(int n) {
        return answer(() -> {
            badIf(n < 1 || n > 3);
            refuseIf(glasses.isEmpty(), STATE, 0);
            return pick(new int[0], n);
        });
    }

    private int pick(int[] done, int turns) {
        for (int step = 0; step < 6; step++) {
            boolean isGood = true;
            for (int k = 0; k < glasses.size(); k++) {
                int[] doings = and(done, step);
                boolean isBroken = brokenBy(step, shown(own(k), doings, done.length)) != NONE;
                isGood &= !isBroken && (turns == 1 || pick(doings, turns - 1) != NONE);
            }
            if (isGood) {
                return step;
            }
        }
        return NONE;
    }

    // ---- 7 puddles, lots

    int odds(int k, int r, int p) {
        return answer(() -> {
            badRowOf(k, r);
            badIf(p < 0 || p > 12);
            puddles(k, steps(r, 12), p, false);
            return 1;
        });
    }

    int mid(int k, int r, int p) {
        return answer(() -> {
            badRowOf(k, r);
            badIf(p < 0 || p > 12);
            puddles(k, steps(r, 12), p, true);
            return 1;
        });
    }

    /** Each way in which the puddles lie, weighed: the mean of the places, or the chance of no place. */
    private void puddles(int k, int[] doings, int p, boolean isMean) {
        long sum = 0;
        long all = 0;
        for (int lie = 0; lie < 1 << doings.length; lie++) {
            long weight = 1;
            int places = 0;
            for (int i = 0; i < doings.length; i++) {
                boolean isPuddle = (lie >> i & 1) == 1;
                weight *= isPuddle ? p : 12 - p;
                int shown = isPuddle ? 0 : shown(own(k), doings, i);
                places += brokenBy(doings[i], shown) == NONE ? 0 : 1;
            }
            all += weight;
            sum += isMean ? weight * places : places == 0 ? weight : 0;
        }
        tell(sum, all);
    }

    private void tell(long above, long below) {
        BigInteger shared = BigInteger.valueOf(above).gcd(BigInteger.valueOf(below));
        upper = BigInteger.valueOf(above).divide(shared);
        lower = BigInteger.valueOf(below).divide(shared);
    }

    int lots(int n, int seed) {
        return answer(() -> {
            badIf(n < 1 || n > 20 || seed < 1 || seed > 2147483646);
            refuseIf(glasses.isEmpty(), STATE, 0);
            refuseIf(deeds.size() + n > 40, FULL, 0);
            BigInteger number = BigInteger.valueOf(seed);
            int broken = 0;
            for (int i = 0; i < n; i++) {
                number = number.multiply(BigInteger.valueOf(48271)).mod(BigInteger.valueOf(2147483647));
                int glass = number.mod(BigInteger.valueOf(glasses.size())).intValue();
                int step = number.divide(BigInteger.valueOf(8)).mod(BigInteger.valueOf(6)).intValue();
                deeds.add(new int[] {step, glass});
                broken += brokenAt(deeds.size() - 1) == NONE ? 0 : 1;
            }
            return broken;
        });
    }

    // ---- 8 what is told

    int asked() {
        return asked;
    }

    long upper() {
        return upper.longValueExact();
    }

    long lower() {
        return lower.longValueExact();
    }

    int count(int what) {
        switch (what) {
            case 0: return glasses.size();
            case 1: return terms.size();
            case 2: return deeds.size();
            case 3: return (int) java.util.stream.IntStream.range(0, deeds.size()).filter(d -> brokenAt(d) != NONE).count();
            case 4: return (int) glasses.stream().filter(g -> g.matches("[li].")).count();
            case 5: return (int) glasses.stream().filter(g -> g.matches("[tf].")).count();
            case 6: return (int) java.util.Arrays.stream(rows).filter(row -> row != null).count();
            case 7: return (int) java.util.Arrays.stream(texts).filter(text -> text != null).count();
            case 8: return (int) kept.stream().filter(room -> room != null).count();
            default: return BAD;
        }
    }

    int finding() {
        return found.isEmpty() ? 0 : found.get(found.size() - 1);
    }

    int findings(int f) {
        return f < 1 || f > 5 ? BAD : (int) found.stream().filter(one -> one == f).count();
    }

    long digest() {
        List<Integer> all = new ArrayList<>();
        for (int what = 0; what <= 8; what++) {
            all.add(count(what));
        }
        for (int step = 0; step < 6; step++) {
            all.add(figure(habits, step));
        }
        for (int number = 0; number < 4 * glasses.size(); number++) {
            all.add(ofGlass(number / 4, number % 4));
        }
        for (String term : terms) {
            all.add(figure(term, 1));
            all.add(figure(term, 2));
        }
        for (int number = 0; number < 4 * deeds.size(); number++) {
            all.add(ofDeed(number / 4, number % 4));
        }
        for (List<int[]> room : kept) {
            all.add(room == null ? -1 : room.size());
        }
        for (int[] row : rows) {
            all.add(row == null ? -1 : row.length);
            for (int i = 0; row != null && i < row.length; i++) {
                all.add(row[i]);
            }
        }
        for (byte[] text : texts) {
            all.add(text == null ? -1 : text.length);
            for (int i = 0; text != null && i < text.length; i++) {
                all.add((int) text[i]);
            }
        }
        BigInteger h = BigInteger.valueOf(17);
        for (int v : all) {
            h = h.multiply(BigInteger.valueOf(31)).add(BigInteger.valueOf(v));
        }
        return h.longValue();
    }
}
