/** Promises 22 to 28: what is shown, and what was done. */
public final class ShownTest {
    private static final Checks c = new Checks();

    public static void main(String[] args) {
        show();
        breaks();
        alike();
        fit();
        fitRefused();
        doingsRefused();
        ways();
        first();
        can();
        shownRefused();
        c.end();
    }

    private static void show() {
        LimpMirror x = Checks.roomOf("h301254 g1 l2 t1 o1 i1 f1");
        String[] want = {"2 1 3 4 5 0 2", "0 0 2 1 3 4 5", "2 0 3 0 5 0 2", "0 2 1 5 4 3 0",
            "0 2 0 3 4 0 0", "2 2 3 5 5 3 2"};
        for (int k = 0; k < 6; k++) {
            Checks.fill(x, 0, "1234501");
            c.due("show before " + k, x.show(k, 0, 1), 7);
            c.due("shown before " + k, Checks.rowOf(x, 1), want[k]);
            c.due("doings stay", Checks.rowOf(x, 0), "1 2 3 4 5 0 1");
            c.due("show on itself", x.show(k, 0, 0), 7);
            c.due("shown on itself", Checks.rowOf(x, 0), want[k]);
        }
        x.step(0, 1);
        Checks.fill(x, 0, "12");
        c.due("aside, whatever was done", x.show(1, 0, 5), 2);
        c.due("a row that was missing", Checks.rowOf(x, 5), "0 0");
        c.due("no deeds of it", x.count(2), 1);
        x.row(0, 0);
        c.due("show of none", x.show(0, 0, 1), 0);
        c.due("row of none", Checks.rowOf(x, 1), "");
        x.row(0, 12);
        c.due("show of twelve", x.show(0, 0, 1), 12);
        c.due("to no row", x.show(0, 0, 6), LimpMirror.BAD);
        c.due("to no row, missing", x.show(0, 4, -1), LimpMirror.BAD);
        x.tear(1);
        c.found("missing", x, x.show(0, 4, 1), Checks.NOTHING);
        c.due("the other row is as it was", Checks.rowOf(x, 1), "-");
    }

    private static void breaks() {
        LimpMirror x = Checks.roomOf("h000000g0l1n12n30n33n33");
        Checks.fill(x, 0, "0231");
        c.asked("two places", x, x.breaks(0, 0), 2, 2);
        c.asked("none", x, x.breaks(1, 0), LimpMirror.NONE, 0);
        Checks.fill(x, 0, "03");
        c.asked("late", x, x.breaks(1, 0), 1, 1);
    }

    private static void alike() {
        LimpMirror x = Checks.roomOf("h000000g0t0");
        Checks.fill(x, 0, "012034");
        c.due("glass", x.alike(0, 0), 4);
        c.due("thin", x.alike(1, 0), 3);
        x.row(0, 0);
        c.due("none", x.alike(0, 0), 0);
    }

    private static void fit() {
        LimpMirror x = new LimpMirror();
        Checks.fill(x, 0, "01234");
        Checks.fill(x, 1, "01034");
        c.asked("one", x, x.fit(0, 1), 1, 2);
        c.asked("itself", x, x.fit(0, 0), 0, LimpMirror.NONE);
        Checks.fill(x, 1, "11235");
        c.asked("two", x, x.fit(0, 1), 2, 0);
        x.row(0, 0);
        x.row(1, 0);
        c.asked("of none", x, x.fit(0, 1), 0, LimpMirror.NONE);
    }

    private static void fitRefused() {
        LimpMirror x = new LimpMirror();
        c.due("fit(6, 0)", x.fit(6, 0), LimpMirror.BAD);
        c.due("fit(0, -1)", x.fit(0, -1), LimpMirror.BAD);
        pairRefused(x, "fit");
    }

    private static int pairCall(LimpMirror x, String call, int r, int q) {
        switch (call) {
            case "fit": return x.fit(r, q);
            case "laws": return x.laws(r, q);
            case "next": return x.next(r, q);
            default: return x.he(0, r, q);
        }
    }

    /** All of the first row is looked at ahead of the second one. */
    static void pairRefused(LimpMirror x, String call) {
        pairRefused(c, x, call);
    }

    static void pairRefused(Checks checks, LimpMirror x, String call) {
        Checks.fill(x, 0, "0123");
        Checks.fill(x, 1, 0, 6, 0, 0);
        Checks.fill(x, 2, 0, -1, 0, 0, 0, 0, 0, 0, 0, 0, 0, 0, 0);
        Checks.fill(x, 3, "012");
        checks.found(call + " missing", x, pairCall(x, call, 5, 5), Checks.NOTHING);
        checks.found(call + " missing, ahead", x, pairCall(x, call, 5, 2), Checks.NOTHING);
        checks.found(call + " second missing", x, pairCall(x, call, 0, 5), Checks.NOTHING);
        checks.found(call + " 13", x, pairCall(x, call, 2, 5), Checks.SIZE);
        checks.found(call + " second 13", x, pairCall(x, call, 0, 2), Checks.SIZE);
        checks.found(call + " no step", x, pairCall(x, call, 1, 2), Checks.UNLIKE);
        checks.found(call + " no step, second missing", x, pairCall(x, call, 1, 5), Checks.UNLIKE);
        checks.found(call + " second no step", x, pairCall(x, call, 3, 1), Checks.UNLIKE);
        checks.found(call + " not as many", x, pairCall(x, call, 0, 3), Checks.SIZE);
    }

    private static int rowCall(LimpMirror x, String call, int k, int r) {
        switch (call) {
            case "show": return x.show(k, r, 4);
            case "breaks": return x.breaks(k, r);
            case "alike": return x.alike(k, r);
            case "ways": return x.ways(k, r);
            case "first": return x.first(k, r, 4);
            case "can": return x.can(k, r, 9);
            case "odds": return x.odds(k, r, 6);
            default: return x.mid(k, r, 6);
        }
    }

    static void rowRefused(Checks checks, String call, int most) {
        LimpMirror x = Checks.roomOf(Checks.FAIR);
        int[] tooMany = new int[most + 1];
        tooMany[0] = 9;
        Checks.fill(x, 1, tooMany);
        Checks.fill(x, 2, 0, 6);
        Checks.fill(x, 3, -1, 0);
        for (int bad : new int[] {-1, 6}) {
            checks.due(call + " before no glass", rowCall(x, call, bad, 0), LimpMirror.BAD);
            checks.due(call + " of no row", rowCall(x, call, 0, bad), LimpMirror.BAD);
        }
        checks.found(call + " missing", x, rowCall(x, call, 0, 0), Checks.NOTHING);
        checks.found(call + " too many", x, rowCall(x, call, 0, 1), Checks.SIZE);
        checks.found(call + " 6", x, rowCall(x, call, 0, 2), Checks.UNLIKE);
        checks.found(call + " -1", x, rowCall(x, call, 0, 3), Checks.UNLIKE);
        checks.due(call + " does nothing so", x.count(6), 3);
        x.row(1, most);
        checks.due(call + " of the most", rowCall(x, call, 0, 1) == LimpMirror.FINDING ? 1 : 0, 0);
    }

    private static void doingsRefused() {
        rowRefused(c, "show", 12);
        rowRefused(c, "breaks", 12);
        rowRefused(c, "alike", 12);
    }

    private static void ways() {
        LimpMirror x = Checks.roomOf("h001100 g0 l2 t0 o0 i1 f0");
        Checks.fill(x, 0, "120");
        c.told("glass", x, x.ways(0, 0), 1, 1);
        Checks.fill(x, 0, "0012");
        c.told("late: two free", x, x.ways(1, 0), 36, 1);
        Checks.fill(x, 0, "0112");
        c.told("late: no way", x, x.ways(1, 0), 0, 1);
        Checks.fill(x, 0, "1020");
        c.told("thin", x, x.ways(2, 0), 36, 1);
        Checks.fill(x, 0, "0202");
        c.told("thought", x, x.ways(3, 0), 4 * 2 * 4 * 2, 1);
        Checks.fill(x, 0, "0101");
        c.told("thought: no way", x, x.ways(3, 0), 0, 1);
        Checks.fill(x, 0, "0103");
        c.told("limp: place 1 is not shown at 2", x, x.ways(4, 0), 36, 1);
        Checks.fill(x, 0, "3230");
        c.told("friend", x, x.ways(5, 0), 2 * 4, 1);
        x.row(0, 6);
        c.told("six places", x, x.ways(3, 0), 4096, 1);
        x.row(0, 0);
        c.told("none", x, x.ways(0, 0), 1, 1);
    }

    private static void first() {
        LimpMirror x = Checks.roomOf("h001100 g0 l2 t0 o0 i1 f0");
        Checks.fill(x, 0, "0012");
        c.due("late", x.first(1, 0, 1), 4);
        c.due("first of late", Checks.rowOf(x, 1), "2 1 0 0");
        Checks.fill(x, 0, "0202");
        c.due("thought", x.first(3, 0, 1), 4);
        c.due("first of thought", Checks.rowOf(x, 1), "0 2 0 2");
        Checks.fill(x, 0, "0101");
        c.due("no way", x.first(3, 0, 1), LimpMirror.NONE);
        c.due("the row stays", Checks.rowOf(x, 1), "0 2 0 2");
        Checks.fill(x, 0, "12");
        c.due("on itself", x.first(0, 0, 0), 2);
        c.due("first on itself", Checks.rowOf(x, 0), "2 1");
        x.row(0, 0);
        c.due("none", x.first(0, 0, 5), 0);
        c.due("row of none", Checks.rowOf(x, 5), "");
        c.due("to no row", x.first(0, 0, 6), LimpMirror.BAD);
        c.due("to no row, missing", x.first(0, 4, -1), LimpMirror.BAD);
    }

    private static void can() {
        LimpMirror x = Checks.roomOf("h001100 g0 l2 t0 o0 i1 f0");
        Checks.fill(x, 0, "0012");
        c.due("late, place 0", x.can(1, 0, 0), 4);
        c.due("late, place 1", x.can(1, 0, 1), 2);
        c.due("late, place 2", x.can(1, 0, 2), 63);
        Checks.fill(x, 0, "0202");
        c.due("thought of 0", x.can(3, 0, 0), 1 + 2 + 16 + 32);
        c.due("thought of 1", x.can(3, 0, 3), 4 + 8);
        Checks.fill(x, 0, "0101");
        c.due("no way", x.can(3, 0, 0), 0);
        c.due("no place", x.can(3, 0, 4), LimpMirror.BAD);
        c.due("below 0", x.can(3, 0, -1), LimpMirror.BAD);
        c.due("below 0 ahead of missing", x.can(3, 4, -1), LimpMirror.BAD);
        c.found("missing ahead of no place", x, x.can(3, 4, 9), Checks.NOTHING);
        x.row(0, 0);
        c.due("of none", x.can(0, 0, 0), LimpMirror.BAD);
    }

    private static void shownRefused() {
        rowRefused(c, "ways", 6);
        rowRefused(c, "first", 6);
        rowRefused(c, "can", 6);
    }
}
