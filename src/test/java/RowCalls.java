/** The refusals that calls of one row, or of two, have in common; each promise has its own cases of them. */
final class RowCalls {
    static final int MIN = Integer.MIN_VALUE, MAX = Integer.MAX_VALUE;
    private static final int[] NO_ROWS = {-1, 6, MIN, MAX};
    private static final int[] NO_STEPS = {6, -1, MAX, MIN};

    interface OfRow {
        int of(LimpMirror x, int k, int r);
    }

    interface OfTwo {
        int of(LimpMirror x, int r, int q);
    }

    private RowCalls() {
    }

    /** Six glasses; row 0 is good, 1 has too many, 2 .. 3 are free, 4 has 7, 5 is missing. */
    private static LimpMirror ready(int most) {
        LimpMirror x = Checks.told(Checks.FAIR);
        Checks.fill(x, 0, "12");
        x.row(1, most + 1);
        Checks.fill(x, 4, 7, 7);
        return x;
    }

    // ---- calls of one row

    static void noGlass(Checks c, OfRow call) {
        LimpMirror x = ready(12);
        for (int k : new int[] {-1, 6, MIN, MAX}) {
            c.bad("before " + k, x, () -> call.of(x, k, 0));
        }
        LimpMirror y = Checks.told("h000000g0n12");
        Checks.fill(y, 0, "12");
        c.bad("before 1 of one", y, () -> call.of(y, 1, 0));
        LimpMirror z = Checks.fresh();
        Checks.fill(z, 0, "12");
        c.bad("without a room", z, () -> call.of(z, 0, 0));
    }

    static void noRow(Checks c, OfRow call) {
        LimpMirror x = ready(12);
        for (int r : NO_ROWS) {
            c.bad("of row " + r, x, () -> call.of(x, 0, r));
        }
    }

    static void badAhead(Checks c, OfRow call) {
        LimpMirror x = ready(12);
        c.bad("no glass, a missing row", x, () -> call.of(x, 6, 5));
        c.bad("no glass, too many", x, () -> call.of(x, 6, 1));
        c.bad("no glass, no step", x, () -> call.of(x, 6, 4));
    }

    static void missing(Checks c, OfRow call) {
        LimpMirror x = ready(12);
        c.finds("at first", x, () -> call.of(x, 0, 5), Checks.NOTHING);
        x.tear(0);
        c.finds("behind tear", x, () -> call.of(x, 0, 0), Checks.NOTHING);
    }

    static void tooMany(Checks c, OfRow call, int most) {
        LimpMirror x = ready(most);
        c.finds(most + 1 + " places", x, () -> call.of(x, 0, 1), Checks.SIZE);
        x.row(1, 40);
        c.finds("40 places", x, () -> call.of(x, 0, 1), Checks.SIZE);
        x.row(1, most);
        c.due(most + " places are not refused", call.of(x, 0, 1) == LimpMirror.FINDING ? 1 : 0, 0);
    }

    static void noStep(Checks c, OfRow call, int most) {
        for (int place : new int[] {0, most - 1}) {
            LimpMirror x = ready(most);
            x.row(2, most);
            for (int step : NO_STEPS) {
                x.lay(2, place, step);
                c.finds(step + " at place " + place, x, () -> call.of(x, 0, 2), Checks.UNLIKE);
            }
            for (int step : new int[] {0, 5}) {
                x.lay(2, place, step);
                c.due(step + " is not refused", call.of(x, 0, 2) == LimpMirror.FINDING ? 1 : 0, 0);
            }
        }
    }

    static void sizeAhead(Checks c, OfRow call, int most) {
        LimpMirror x = ready(most);
        x.lay(1, 0, 9);
        c.finds("too many, and no step", x, () -> call.of(x, 0, 1), Checks.SIZE);
    }

    // ---- calls of two rows

    static void noPair(Checks c, OfTwo call) {
        LimpMirror x = ready(12);
        for (int r : NO_ROWS) {
            c.bad("the first " + r, x, () -> call.of(x, r, 0));
            c.bad("the second " + r, x, () -> call.of(x, 0, r));
            c.bad("the second " + r + ", the first missing", x, () -> call.of(x, 5, r));
        }
    }

    static void missingOfPair(Checks c, OfTwo call) {
        LimpMirror x = ready(12);
        c.finds("the first", x, () -> call.of(x, 5, 0), Checks.NOTHING);
        c.finds("the second", x, () -> call.of(x, 0, 5), Checks.NOTHING);
        c.finds("both", x, () -> call.of(x, 5, 5), Checks.NOTHING);
    }

    static void tooManyOfPair(Checks c, OfTwo call, int most) {
        LimpMirror x = ready(most);
        c.finds("the first", x, () -> call.of(x, 1, 0), Checks.SIZE);
        c.finds("the second", x, () -> call.of(x, 0, 1), Checks.SIZE);
        c.finds("both", x, () -> call.of(x, 1, 1), Checks.SIZE);
        x.row(1, most);
        x.row(2, most);
        c.due(most + " places are not refused", call.of(x, 1, 2) == LimpMirror.FINDING ? 1 : 0, 0);
    }

    static void noStepOfPair(Checks c, OfTwo call) {
        LimpMirror x = ready(12);
        for (int step : NO_STEPS) {
            Checks.fill(x, 2, 0, step);
            c.finds(step + " in the first", x, () -> call.of(x, 2, 0), Checks.UNLIKE);
            c.finds(step + " in the second", x, () -> call.of(x, 0, 2), Checks.UNLIKE);
        }
        Checks.fill(x, 2, 0, 5);
        c.due("0 and 5 are not refused", call.of(x, 2, 2) == LimpMirror.FINDING ? 1 : 0, 0);
    }

    static void notAsMany(Checks c, OfTwo call) {
        LimpMirror x = ready(12);
        Checks.fill(x, 2, "120");
        c.finds("the first has fewer", x, () -> call.of(x, 0, 2), Checks.SIZE);
        c.finds("the first has more", x, () -> call.of(x, 2, 0), Checks.SIZE);
        x.row(2, 0);
        c.finds("the second has none", x, () -> call.of(x, 0, 2), Checks.SIZE);
        c.finds("the first has none", x, () -> call.of(x, 2, 0), Checks.SIZE);
    }

    static void unlikeAheadOfNotAsMany(Checks c, OfTwo call) {
        LimpMirror x = ready(12);
        Checks.fill(x, 2, "120");
        c.finds("no step in the second", x, () -> call.of(x, 2, 4), Checks.UNLIKE);
        c.finds("no step in the first", x, () -> call.of(x, 4, 2), Checks.UNLIKE);
    }

    /** All of the first row is looked at ahead of the second one. */
    static void firstAhead(Checks c, OfTwo call, int most) {
        LimpMirror x = ready(most);
        c.finds("missing, too many", x, () -> call.of(x, 5, 1), Checks.NOTHING);
        c.finds("missing, no step", x, () -> call.of(x, 5, 4), Checks.NOTHING);
        c.finds("too many, missing", x, () -> call.of(x, 1, 5), Checks.SIZE);
        c.finds("too many, no step", x, () -> call.of(x, 1, 4), Checks.SIZE);
        c.finds("no step, missing", x, () -> call.of(x, 4, 5), Checks.UNLIKE);
        c.finds("no step, too many", x, () -> call.of(x, 4, 1), Checks.UNLIKE);
        x.lay(1, 0, 9);
        c.finds("too many and no step", x, () -> call.of(x, 1, 0), Checks.SIZE);
        c.finds("the second too many and no step", x, () -> call.of(x, 0, 1), Checks.SIZE);
    }
}
