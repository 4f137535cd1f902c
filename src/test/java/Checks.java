import java.util.function.IntSupplier;

/** What the tests share: answers that are due, rooms and rows made in one line. */
final class Checks {
    static final int NOTHING = 1, BEYOND = 2, UNLIKE = 3, NOUGHT = 4, SIZE = 5;

    /** A room with a glass of each kind (0 .. 5) and four terms. */
    static final String FAIR = "h301254 g0 l2 t0 o0 i1 f0 n12 n30 n00 n55";

    private String about = "";
    private int wrong = 0;
    private int done = 0;

    /** What the answers from here on are about: it is told with each one that is not as due. */
    void about(String what) {
        about = what;
    }

    int done() {
        return done;
    }

    void due(String call, long got, long want) {
        done++;
        if (got != want) {
            wrong(call + " answered " + got + ", due is " + want);
        }
    }

    void due(String call, String got, String want) {
        done++;
        if (!got.equals(want)) {
            wrong(call + " answered " + got + ", due is " + want);
        }
    }

    void wrong(String what) {
        wrong++;
        System.out.println(about + what);
    }

    void bad(String call, LimpMirror x, IntSupplier made) {
        refused(call, x, made, LimpMirror.BAD, 0);
    }

    void full(String call, LimpMirror x, IntSupplier made) {
        refused(call, x, made, LimpMirror.FULL, 0);
    }

    void state(String call, LimpMirror x, IntSupplier made) {
        refused(call, x, made, LimpMirror.STATE, 0);
    }

    void finds(String call, LimpMirror x, IntSupplier made, int finding) {
        refused(call, x, made, LimpMirror.FINDING, finding);
    }

    /** NONE is no refusal, but it changes nothing either, where no more is told. */
    void none(String call, LimpMirror x, IntSupplier made) {
        refused(call, x, made, LimpMirror.NONE, 0);
    }

    /** What is refused changes nothing but finding() and findings(), and these by a FINDING alone. */
    private void refused(String call, LimpMirror x, IntSupplier made, int answer, int finding) {
        String before = toldBy(x);
        int latest = x.finding();
        int[] often = new int[SIZE + 1];
        for (int f = NOTHING; f <= SIZE; f++) {
            often[f] = x.findings(f);
        }
        due(call, made.getAsInt(), answer);
        due("what is told behind " + call, toldBy(x), before);
        due("finding() behind " + call, x.finding(), finding == 0 ? latest : finding);
        for (int f = NOTHING; f <= SIZE; f++) {
            due("findings(" + f + ") behind " + call, x.findings(f), often[f] + (f == finding ? 1 : 0));
        }
    }

    private static String toldBy(LimpMirror x) {
        return x.digest() + " " + x.asked() + " " + x.upper() + "/" + x.lower();
    }

    /** The call that has just answered must have been refused by this finding. */
    void found(String call, LimpMirror x, int got, int finding) {
        due(call, got, LimpMirror.FINDING);
        due("finding() behind " + call, x.finding(), finding);
    }

    /** The call that has just answered 1 must have told these by upper() and lower(). */
    void told(String call, LimpMirror x, int got, long upper, long lower) {
        due(call, got, 1);
        due("upper() behind " + call, x.upper(), upper);
        due("lower() behind " + call, x.lower(), lower);
    }

    /** The call that has just answered must have told this by asked(). */
    void asked(String call, LimpMirror x, int got, int want, int asked) {
        due(call, got, want);
        due("asked() behind " + call, x.asked(), asked);
    }

    void end() {
        System.out.println(done + " answers, " + wrong + " not as due");
        if (wrong != 0 || done == 0) {
            System.exit(1);
        }
    }

    static void write(LimpMirror x, int t, String text) {
        x.text(t, text.length());
        for (int i = 0; i < text.length(); i++) {
            x.put(t, i, text.charAt(i));
        }
    }

    static LimpMirror roomOf(String text) {
        LimpMirror x = new LimpMirror();
        write(x, 0, text);
        if (x.room(0) < 0) {
            throw new IllegalStateException("no room: " + text);
        }
        return x;
    }

    /** A new object by which asked() tells 77, so that a change of it is seen; no row is there. */
    static LimpMirror fresh() {
        LimpMirror x = new LimpMirror();
        tell77(x);
        return x;
    }

    /** A room in which asked() tells 77 and upper(), lower() 5 by 12, if 1 breaks a term; no row is there. */
    static LimpMirror told(String text) {
        LimpMirror x = roomOf(text);
        fill(x, 5, 1);
        x.odds(0, 5, 5);
        tell77(x);
        return x;
    }

    private static void tell77(LimpMirror x) {
        fill(x, 5, 77);
        x.at(5, 0);
        x.tear(5);
    }

    static void fill(LimpMirror x, int r, int... values) {
        x.row(r, values.length);
        for (int i = 0; i < values.length; i++) {
            x.lay(r, i, values[i]);
        }
    }

    /** A row of figures as it stands in a text: "0120". */
    static void fill(LimpMirror x, int r, String figures) {
        int[] values = new int[figures.length()];
        for (int i = 0; i < values.length; i++) {
            values[i] = figures.charAt(i) - '0';
        }
        fill(x, r, values);
    }

    /** The places of a row, "-" if it is missing. */
    static String rowOf(LimpMirror x, int r) {
        StringBuilder all = new StringBuilder();
        int i = 0;
        while (x.at(r, i) == 1) {
            all.append(i == 0 ? "" : " ").append(x.asked());
            i++;
        }
        return x.finding() == NOTHING ? "-" : all.toString();
    }

    static void steps(LimpMirror x, int k, int... steps) {
        for (int step : steps) {
            x.step(k, step);
        }
    }
}
