/** Promises 1 to 9: a new object, rows, texts. */
public final class RowsTest {
    private static final Checks c = new Checks();

    public static void main(String[] args) {
        aNewObject();
        row();
        layAndAt();
        tear();
        copy();
        copyRefused();
        mean();
        text();
        put();
        c.end();
    }

    private static void aNewObject() {
        LimpMirror x = new LimpMirror();
        for (int what = 0; what <= 8; what++) {
            c.due("count(" + what + ")", x.count(what), 0);
        }
        for (int step = 0; step <= 5; step++) {
            c.due("habit(" + step + ")", x.habit(step), 0);
        }
        for (int r = 0; r <= 5; r++) {
            c.due("row " + r, Checks.rowOf(x, r), "-");
        }
        for (int t = 0; t <= 3; t++) {
            c.found("fault", x, x.fault(t), Checks.NOTHING);
        }
        c.due("glass(0, 0)", x.glass(0, 0), LimpMirror.BAD);
        c.due("term(0, 0)", x.term(0, 0), LimpMirror.BAD);
        c.due("deed(0, 0)", x.deed(0, 0), LimpMirror.BAD);
    }

    private static void row() {
        LimpMirror x = new LimpMirror();
        c.due("row(0, 3)", x.row(0, 3), 3);
        c.due("row 0", Checks.rowOf(x, 0), "0 0 0");
        x.lay(0, 1, 7);
        c.due("row(0, 2) anew", x.row(0, 2), 2);
        c.due("row 0 anew", Checks.rowOf(x, 0), "0 0");
        c.due("row(5, 40)", x.row(5, 40), 40);
        c.due("at(5, 39)", x.at(5, 39), 1);
        c.due("row(1, 0)", x.row(1, 0), 0);
        c.due("rows", x.count(6), 3);
        c.due("row(0, 41)", x.row(0, 41), LimpMirror.BAD);
        c.due("row(-1, 1)", x.row(-1, 1), LimpMirror.BAD);
        c.due("row(6, 1)", x.row(6, 1), LimpMirror.BAD);
        c.due("row(6, -1)", x.row(6, -1), LimpMirror.BAD);
        c.found("row(0, -1)", x, x.row(0, -1), Checks.SIZE);
        c.due("row 0 as it was", Checks.rowOf(x, 0), "0 0");
    }

    private static void layAndAt() {
        LimpMirror x = new LimpMirror();
        x.row(2, 2);
        c.asked("lay(2, 1, -5)", x, x.lay(2, 1, -5), 1, 0);
        c.asked("lay(2, 1, max)", x, x.lay(2, 1, Integer.MAX_VALUE), 1, -5);
        c.asked("at(2, 1)", x, x.at(2, 1), 1, Integer.MAX_VALUE);
        c.asked("at(2, 0)", x, x.at(2, 0), 1, 0);
        for (int r : new int[] {-1, 6}) {
            c.due("lay of no row", x.lay(r, 0, 1), LimpMirror.BAD);
            c.due("at of no row", x.at(r, 0), LimpMirror.BAD);
        }
        c.found("lay(3, 0, 1)", x, x.lay(3, 0, 1), Checks.NOTHING);
        c.found("lay(3, -1, 1)", x, x.lay(3, -1, 1), Checks.NOTHING);
        c.found("at(3, 9)", x, x.at(3, 9), Checks.NOTHING);
        for (int i : new int[] {-1, 2, Integer.MIN_VALUE, Integer.MAX_VALUE}) {
            c.found("lay beyond", x, x.lay(2, i, 1), Checks.BEYOND);
            c.found("at beyond", x, x.at(2, i), Checks.BEYOND);
        }
        c.due("row 2", Checks.rowOf(x, 2), "0 " + Integer.MAX_VALUE);
    }

    private static void tear() {
        LimpMirror x = new LimpMirror();
        x.row(4, 1);
        c.due("tear(4)", x.tear(4), 1);
        c.due("rows", x.count(6), 0);
        c.found("at of a torn row", x, x.at(4, 0), Checks.NOTHING);
        c.found("tear(4) again", x, x.tear(4), Checks.NOTHING);
        c.due("tear(-1)", x.tear(-1), LimpMirror.BAD);
        c.due("tear(6)", x.tear(6), LimpMirror.BAD);
    }

    private static void copy() {
        LimpMirror x = new LimpMirror();
        Checks.fill(x, 0, 1, 2, 3, 4, 5);
        Checks.fill(x, 1, 9, 9, 9);
        c.due("copy to another", x.copy(0, 2, 1, 1, 2), 1);
        c.due("row 1", Checks.rowOf(x, 1), "9 3 4");
        c.due("copy on itself, on", x.copy(0, 0, 0, 1, 4), 1);
        c.due("row 0 on", Checks.rowOf(x, 0), "1 1 2 3 4");
        Checks.fill(x, 0, 1, 2, 3, 4, 5);
        c.due("copy on itself, back", x.copy(0, 1, 0, 0, 4), 1);
        c.due("row 0 back", Checks.rowOf(x, 0), "2 3 4 5 5");
        c.due("none at the end", x.copy(0, 5, 1, 3, 0), 1);
        c.due("row 1 as it was", Checks.rowOf(x, 1), "9 3 4");
    }

    private static void copyRefused() {
        LimpMirror x = new LimpMirror();
        Checks.fill(x, 0, 1, 2, 3);
        Checks.fill(x, 1, 4, 5);
        c.due("no such row", x.copy(6, 0, 1, 0, -1), LimpMirror.BAD);
        c.due("to no such row", x.copy(0, 0, -1, 0, 1), LimpMirror.BAD);
        c.found("n below 0, row missing", x, x.copy(5, 0, 1, 0, -1), Checks.SIZE);
        c.found("from a missing row", x, x.copy(5, 9, 1, 9, 1), Checks.NOTHING);
        c.found("to a missing row", x, x.copy(0, 9, 5, 9, 1), Checks.NOTHING);
        c.found("too many from", x, x.copy(1, 1, 0, 0, 2), Checks.BEYOND);
        c.found("too many to", x, x.copy(0, 0, 1, 1, 2), Checks.BEYOND);
        c.found("from below 0", x, x.copy(0, -1, 1, 0, 1), Checks.BEYOND);
        c.found("to below 0", x, x.copy(0, 0, 1, -1, 1), Checks.BEYOND);
        c.found("none from beyond the end", x, x.copy(0, 4, 1, 0, 0), Checks.BEYOND);
        c.found("a sum that wraps", x, x.copy(0, 1, 1, 1, Integer.MAX_VALUE), Checks.BEYOND);
        c.found("a place that wraps", x, x.copy(0, Integer.MAX_VALUE, 1, 0, 2), Checks.BEYOND);
        c.due("row 0", Checks.rowOf(x, 0), "1 2 3");
        c.due("row 1", Checks.rowOf(x, 1), "4 5");
    }

    private static void mean() {
        LimpMirror x = new LimpMirror();
        Checks.fill(x, 0, 1, 2, 5);
        c.asked("mean", x, x.mean(0), 1, 2);
        Checks.fill(x, 0, -1, -2, -5);
        c.asked("mean below 0, cut", x, x.mean(0), 1, -2);
        Checks.fill(x, 0, Integer.MAX_VALUE, Integer.MAX_VALUE, Integer.MAX_VALUE);
        c.asked("mean of much", x, x.mean(0), 1, Integer.MAX_VALUE);
        Checks.fill(x, 0, Integer.MIN_VALUE, Integer.MIN_VALUE);
        c.asked("mean of little", x, x.mean(0), 1, Integer.MIN_VALUE);
        c.due("mean(6)", x.mean(6), LimpMirror.BAD);
        c.due("mean(-1)", x.mean(-1), LimpMirror.BAD);
        c.found("mean(1)", x, x.mean(1), Checks.NOTHING);
        x.row(1, 0);
        c.found("mean of none", x, x.mean(1), Checks.NOUGHT);
        c.due("asked() as it was", x.asked(), Integer.MIN_VALUE);
    }

    private static void text() {
        LimpMirror x = new LimpMirror();
        c.due("text(3, 60)", x.text(3, 60), 60);
        c.due("put(3, 59, 65)", x.put(3, 59, 65), 1032);
        c.due("text(3, 60) anew", x.text(3, 60), 60);
        c.due("put(3, 59, 65) anew", x.put(3, 59, 65), 1032);
        c.due("text(0, 0)", x.text(0, 0), 0);
        c.due("texts", x.count(7), 2);
        c.due("text(0, 61)", x.text(0, 61), LimpMirror.BAD);
        c.due("text(-1, 0)", x.text(-1, 0), LimpMirror.BAD);
        c.due("text(4, -1)", x.text(4, -1), LimpMirror.BAD);
        c.found("text(0, -1)", x, x.text(0, -1), Checks.SIZE);
    }

    private static void put() {
        LimpMirror x = new LimpMirror();
        x.text(1, 2);
        c.due("put(1, 0, 200)", x.put(1, 0, 200), 1032);
        c.due("what 200 was", x.put(1, 0, 256 + 7), 1000 + (byte) 200);
        c.due("what 263 was", x.put(1, 0, -128), 1007);
        c.due("what -128 was", x.put(1, 0, 127), 872);
        c.due("what 127 was", x.put(1, 0, 0), 1127);
        c.due("put(4, 0, 1)", x.put(4, 0, 1), LimpMirror.BAD);
        c.due("put(-1, 0, 1)", x.put(-1, 0, 1), LimpMirror.BAD);
        c.found("put(0, 0, 1)", x, x.put(0, 0, 1), Checks.NOTHING);
        c.found("put(1, 2, 1)", x, x.put(1, 2, 1), Checks.BEYOND);
        c.found("put(1, -1, 1)", x, x.put(1, -1, 1), Checks.BEYOND);
    }
}
