/** What the tests share: answers that are due, rooms and rows made in one line. */
final class Checks {
    static final int NOTHING = 1, BEYOND = 2, UNLIKE = 3, NOUGHT = 4, SIZE = 5;

    /** A room with a glass of each kind (0 .. 5) and four terms. */
    static final String FAIR = "h301254 g0 l2 t0 o0 i1 f0 n12 n30 n00 n55";

    private int wrong = 0;
    private int done = 0;

    void due(String call, long got, long want) {
        done++;
        if (got != want) {
            wrong++;
            System.out.println(call + " answered " + got + ", due is " + want);
        }
    }

    void due(String call, String got, String want) {
        done++;
        if (!got.equals(want)) {
            wrong++;
            System.out.println(call + " answered " + got + ", due is " + want);
        }
    }

    /** The call that has just answered must have been refused by this finding. */
    void found(String call, LimpMirror x, int got, int finding) {
        due(call, got, LimpMirror.FINDING);
        due("finding() behind " + call, x.finding(), finding);
    }

    /** The call that has just answered 1 must have told these by upper() and lower(). */
    void told(String call, LimpMirror x, int got, long upper, long lower) {
        due(call, got, 1);
        due("upper() behind " + call, x.upper(), upper);
        due("lower() behind " + call, x.lower(), lower);
    }

    /** The call that has just answered must have told this by asked(). */
    void asked(String call, LimpMirror x, int got, int want, int asked) {
        due(call, got, want);
        due("asked() behind " + call, x.asked(), asked);
    }

    void end() {
        System.out.println(done + " answers, " + wrong + " not as due");
        if (wrong != 0 || done == 0) {
            System.exit(1);
        }
    }

    static void write(LimpMirror x, int t, String text) {
        x.text(t, text.length());
        for (int i = 0; i < text.length(); i++) {
            x.put(t, i, text.charAt(i));
        }
    }

    static LimpMirror roomOf(String text) {
        LimpMirror x = new LimpMirror();
        write(x, 0, text);
        if (x.room(0) < 0) {
            throw new IllegalStateException("no room: " + text);
        }
        return x;
    }

    static void fill(LimpMirror x, int r, int... values) {
        x.row(r, values.length);
        for (int i = 0; i < values.length; i++) {
            x.lay(r, i, values[i]);
        }
    }

    /** A row of figures as it stands in a text: "0120". */
    static void fill(LimpMirror x, int r, String figures) {
        int[] values = new int[figures.length()];
        for (int i = 0; i < values.length; i++) {
            values[i] = figures.charAt(i) - '0';
        }
        fill(x, r, values);
    }

    /** The places of a row, "-" if it is missing. */
    static String rowOf(LimpMirror x, int r) {
        StringBuilder all = new StringBuilder();
        int i = 0;
        while (x.at(r, i) == 1) {
            all.append(i == 0 ? "" : " ").append(x.asked());
            i++;
        }
        return x.finding() == NOTHING ? "-" : all.toString();
    }

    static void steps(LimpMirror x, int k, int... steps) {
        for (int step : steps) {
            x.step(k, step);
        }
    }
}
