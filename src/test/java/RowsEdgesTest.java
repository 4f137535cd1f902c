/** The boundary cases of promises 1 to 9: a new object, rows, texts. */
public final class RowsEdgesTest {
    private static final Checks c = new Checks();
    private static final int MIN = Integer.MIN_VALUE, MAX = Integer.MAX_VALUE;
    private static final int[] NO_ROWS = {-1, 6, MIN, MAX};
    private static final int[] NO_TEXTS = {-1, 4, MIN, MAX};

    public static void main(String[] args) throws Exception {
        Edges.run(c, RowsEdgesTest.class, 1, 9);
    }

    // ---- 1 a new object

    @Edge(promise = 1, says = "No ROWS")
    static void newWithoutRows() {
        LimpMirror x = new LimpMirror();
        c.due("count(6)", x.count(6), 0);
        for (int r = 0; r <= 5; r++) {
            int row = r;
            c.finds("tear(" + r + ")", x, () -> x.tear(row), Checks.NOTHING);
        }
    }

    @Edge(promise = 1, says = "TEXTS")
    static void newWithoutTexts() {
        LimpMirror x = new LimpMirror();
        c.due("count(7)", x.count(7), 0);
        for (int t = 0; t <= 3; t++) {
            int text = t;
            c.finds("fault(" + t + ")", x, () -> x.fault(text), Checks.NOTHING);
        }
    }

    @Edge(promise = 1, says = "GLASSES")
    static void newWithoutGlasses() {
        LimpMirror x = new LimpMirror();
        c.due("count(0)", x.count(0), 0);
        c.due("count(4)", x.count(4), 0);
        c.due("count(5)", x.count(5), 0);
        c.bad("glass(0, 0)", x, () -> x.glass(0, 0));
    }

    @Edge(promise = 1, says = "TERMS")
    static void newWithoutTerms() {
        LimpMirror x = new LimpMirror();
        c.due("count(1)", x.count(1), 0);
        c.bad("term(0, 0)", x, () -> x.term(0, 0));
    }

    @Edge(promise = 1, says = "each HABIT 0")
    static void newWithHabitsZero() {
        LimpMirror x = new LimpMirror();
        for (int step = 0; step <= 5; step++) {
            c.due("habit(" + step + ")", x.habit(step), 0);
        }
    }

    @Edge(promise = 1, says = "A ROOM (without GLASSES at first)")
    static void newWithoutDeedsAndKeptRooms() {
        LimpMirror x = new LimpMirror();
        c.due("count(2)", x.count(2), 0);
        c.due("count(3)", x.count(3), 0);
        c.due("count(8)", x.count(8), 0);
    }

    @Edge(promise = 1, says = "at most 512 calls after it has been made")
    static void theLastOf512Calls() {
        LimpMirror x = new LimpMirror();
        for (int call = 1; call <= 511; call++) {
            x.row(0, call % 41);
        }
        c.due("the 512th call", x.row(0, 40), 40);
    }

    @Edge(promise = 1, says = "No ROWS")
    static void newBesideAnother() {
        LimpMirror other = Checks.roomOf(Checks.FAIR);
        other.row(0, 3);
        other.step(0, 1);
        LimpMirror x = new LimpMirror();
        c.due("a row of another object", x.count(6), 0);
        c.due("the glasses of another object", x.count(0), 0);
        c.due("the deeds of another object", x.count(2), 0);
    }

    // ---- 2 row

    @Edge(promise = 2, says = "ROWS 0 .. 5 are rows")
    static void rowFirstAndLast() {
        LimpMirror x = new LimpMirror();
        c.due("row(0, 1)", x.row(0, 1), 1);
        c.due("row(5, 2)", x.row(5, 2), 2);
        c.due("row 0", Checks.rowOf(x, 0), "0");
        c.due("row 5", Checks.rowOf(x, 5), "0 0");
        c.due("count(6)", x.count(6), 2);
    }

    @Edge(promise = 2, says = "BAD")
    static void rowOfNoNumber() {
        LimpMirror x = Checks.fresh();
        for (int r : NO_ROWS) {
            c.bad("row(" + r + ", 1)", x, () -> x.row(r, 1));
        }
    }

    @Edge(promise = 2, says = "rows of 0 to 40 ints")
    static void rowOfNone() {
        LimpMirror x = new LimpMirror();
        c.due("row(2, 0)", x.row(2, 0), 0);
        c.due("it is there", x.count(6), 1);
        c.finds("at(2, 0)", x, () -> x.at(2, 0), Checks.BEYOND);
    }

    @Edge(promise = 2, says = "rows of 0 to 40 ints")
    static void rowOf40() {
        LimpMirror x = new LimpMirror();
        c.due("row(2, 40)", x.row(2, 40), 40);
        c.asked("at(2, 39)", x, x.at(2, 39), 1, 0);
        c.finds("at(2, 40)", x, () -> x.at(2, 40), Checks.BEYOND);
    }

    @Edge(promise = 2, says = "BAD: also n above 40")
    static void rowOf41() {
        LimpMirror x = Checks.fresh();
        c.bad("row(0, 41)", x, () -> x.row(0, 41));
        c.bad("row(0, MAX)", x, () -> x.row(0, MAX));
        Checks.fill(x, 0, 7, 8);
        c.bad("row(0, 41), there", x, () -> x.row(0, 41));
        c.due("row 0", Checks.rowOf(x, 0), "7 8");
    }

    @Edge(promise = 2, says = "SIZE: below 0")
    static void rowBelowNone() {
        LimpMirror x = Checks.fresh();
        c.finds("row(0, -1)", x, () -> x.row(0, -1), Checks.SIZE);
        c.finds("row(0, MIN)", x, () -> x.row(0, MIN), Checks.SIZE);
        Checks.fill(x, 0, 7, 8);
        c.finds("row(0, -1), there", x, () -> x.row(0, -1), Checks.SIZE);
        c.due("row 0", Checks.rowOf(x, 0), "7 8");
    }

    @Edge(promise = 2, says = "the first of these that fits, in this order: BAD -1")
    static void rowBadAheadOfSize() {
        LimpMirror x = Checks.fresh();
        c.bad("row(6, -1)", x, () -> x.row(6, -1));
        c.bad("row(-1, -1)", x, () -> x.row(-1, -1));
    }

    @Edge(promise = 2, says = "A ROW is there with n ints 0")
    static void rowAnew() {
        LimpMirror x = new LimpMirror();
        Checks.fill(x, 3, 1, 2, 3);
        c.due("shorter", x.row(3, 2), 2);
        c.due("row 3, shorter", Checks.rowOf(x, 3), "0 0");
        Checks.fill(x, 3, 1, 2);
        c.due("longer", x.row(3, 4), 4);
        c.due("row 3, longer", Checks.rowOf(x, 3), "0 0 0 0");
        Checks.fill(x, 3, 1, 2);
        x.tear(3);
        c.due("behind tear", x.row(3, 2), 2);
        c.due("row 3, behind tear", Checks.rowOf(x, 3), "0 0");
    }

    // ---- 3 lay

    @Edge(promise = 3, says = "what it was, told by asked(): 1")
    static void layFirstAndLastPlace() {
        LimpMirror x = new LimpMirror();
        x.row(1, 40);
        c.asked("lay(1, 0, MIN)", x, x.lay(1, 0, MIN), 1, 0);
        c.asked("lay(1, 0, 5)", x, x.lay(1, 0, 5), 1, MIN);
        c.asked("lay(1, 39, MAX)", x, x.lay(1, 39, MAX), 1, 0);
        c.asked("lay(1, 39, -9)", x, x.lay(1, 39, -9), 1, MAX);
        c.asked("at(1, 39)", x, x.at(1, 39), 1, -9);
        c.asked("at(1, 38)", x, x.at(1, 38), 1, 0);
    }

    @Edge(promise = 3, says = "BAD")
    static void layOfNoRow() {
        LimpMirror x = Checks.fresh();
        for (int r : NO_ROWS) {
            c.bad("lay(" + r + ", 0, 1)", x, () -> x.lay(r, 0, 1));
            c.bad("lay(" + r + ", -1, 1)", x, () -> x.lay(r, -1, 1));
        }
    }

    @Edge(promise = 3, says = "NOTHING")
    static void layOfAMissingRow() {
        LimpMirror x = Checks.fresh();
        c.finds("at first", x, () -> x.lay(3, 0, 1), Checks.NOTHING);
        x.row(3, 2);
        x.tear(3);
        c.finds("behind tear", x, () -> x.lay(3, 0, 1), Checks.NOTHING);
    }

    @Edge(promise = 3, says = "NOTHING; BEYOND")
    static void layMissingAheadOfBeyond() {
        LimpMirror x = Checks.fresh();
        c.finds("lay(3, -1, 1)", x, () -> x.lay(3, -1, 1), Checks.NOTHING);
        c.finds("lay(3, 40, 1)", x, () -> x.lay(3, 40, 1), Checks.NOTHING);
    }

    @Edge(promise = 3, says = "BEYOND")
    static void layBeyond() {
        LimpMirror x = Checks.fresh();
        Checks.fill(x, 3, 4, 5);
        for (int i : new int[] {-1, 2, 39, 40, MIN, MAX}) {
            c.finds("lay(3, " + i + ", 1)", x, () -> x.lay(3, i, 1), Checks.BEYOND);
        }
        x.row(4, 0);
        c.finds("of none", x, () -> x.lay(4, 0, 1), Checks.BEYOND);
    }

    // ---- 4 at

    @Edge(promise = 4, says = "told by asked(): 1")
    static void atFirstAndLastPlace() {
        LimpMirror x = new LimpMirror();
        Checks.fill(x, 0, MAX, 3, MIN);
        c.asked("at(0, 0)", x, x.at(0, 0), 1, MAX);
        c.asked("at(0, 2)", x, x.at(0, 2), 1, MIN);
        c.asked("at(0, 0) again", x, x.at(0, 0), 1, MAX);
    }

    @Edge(promise = 4, says = "BAD")
    static void atOfNoRow() {
        LimpMirror x = Checks.fresh();
        for (int r : NO_ROWS) {
            c.bad("at(" + r + ", 0)", x, () -> x.at(r, 0));
            c.bad("at(" + r + ", -1)", x, () -> x.at(r, -1));
        }
    }

    @Edge(promise = 4, says = "NOTHING")
    static void atOfAMissingRow() {
        LimpMirror x = Checks.fresh();
        c.finds("at first", x, () -> x.at(3, 0), Checks.NOTHING);
        x.row(3, 2);
        x.tear(3);
        c.finds("behind tear", x, () -> x.at(3, 0), Checks.NOTHING);
    }

    @Edge(promise = 4, says = "NOTHING; BEYOND")
    static void atMissingAheadOfBeyond() {
        LimpMirror x = Checks.fresh();
        c.finds("at(3, -1)", x, () -> x.at(3, -1), Checks.NOTHING);
        c.finds("at(3, 40)", x, () -> x.at(3, 40), Checks.NOTHING);
    }

    @Edge(promise = 4, says = "BEYOND")
    static void atBeyond() {
        LimpMirror x = Checks.fresh();
        Checks.fill(x, 3, 4, 5);
        for (int i : new int[] {-1, 2, 39, 40, MIN, MAX}) {
            c.finds("at(3, " + i + ")", x, () -> x.at(3, i), Checks.BEYOND);
        }
        x.row(4, 0);
        c.finds("of none", x, () -> x.at(4, 0), Checks.BEYOND);
    }

    // ---- 5 tear

    @Edge(promise = 5, says = "A ROW is missing: 1")
    static void tearOneOfTwo() {
        LimpMirror x = new LimpMirror();
        x.row(0, 40);
        x.row(5, 0);
        c.due("of forty", x.tear(0), 1);
        c.due("count(6)", x.count(6), 1);
        c.due("of none", x.tear(5), 1);
        c.due("count(6), none", x.count(6), 0);
    }

    @Edge(promise = 5, says = "BAD")
    static void tearOfNoRow() {
        LimpMirror x = Checks.fresh();
        for (int r : NO_ROWS) {
            c.bad("tear(" + r + ")", x, () -> x.tear(r));
        }
    }

    @Edge(promise = 5, says = "NOTHING")
    static void tearOfAMissingRow() {
        LimpMirror x = Checks.fresh();
        c.finds("at first", x, () -> x.tear(2), Checks.NOTHING);
        x.row(2, 1);
        x.tear(2);
        c.finds("twice", x, () -> x.tear(2), Checks.NOTHING);
    }

    // ---- 6 copy

    @Edge(promise = 6, says = "(perhaps itself) from one on, as if taken ahead")
    static void copyOnItself() {
        LimpMirror x = new LimpMirror();
        Checks.fill(x, 0, 1, 2, 3, 4, 5);
        c.due("by one on", x.copy(0, 0, 0, 1, 4), 1);
        c.due("row 0, by one on", Checks.rowOf(x, 0), "1 1 2 3 4");
        Checks.fill(x, 0, 1, 2, 3, 4, 5);
        c.due("by one back", x.copy(0, 1, 0, 0, 4), 1);
        c.due("row 0, by one back", Checks.rowOf(x, 0), "2 3 4 5 5");
        c.due("to where it is", x.copy(0, 0, 0, 0, 5), 1);
        c.due("row 0, as it is", Checks.rowOf(x, 0), "2 3 4 5 5");
    }

    @Edge(promise = 6, says = "n places of a ROW, from one on")
    static void copyOfNone() {
        LimpMirror x = new LimpMirror();
        Checks.fill(x, 0, 1, 2, 3);
        Checks.fill(x, 1, 4, 5);
        x.row(2, 0);
        c.due("from the first place", x.copy(0, 0, 1, 0, 0), 1);
        c.due("from behind the last one", x.copy(0, 3, 1, 2, 0), 1);
        c.due("of rows of none", x.copy(2, 0, 2, 0, 0), 1);
        c.due("row 1", Checks.rowOf(x, 1), "4 5");
    }

    @Edge(promise = 6, says = "n places of a ROW, from one on")
    static void copyOfAll() {
        LimpMirror x = new LimpMirror();
        x.row(0, 40);
        x.lay(0, 0, 7);
        x.lay(0, 39, 8);
        x.row(5, 40);
        c.due("forty", x.copy(0, 0, 5, 0, 40), 1);
        c.asked("at(5, 0)", x, x.at(5, 0), 1, 7);
        c.asked("at(5, 39)", x, x.at(5, 39), 1, 8);
        c.due("the last one alone", x.copy(0, 39, 5, 0, 1), 1);
        c.asked("at(5, 0), the last one", x, x.at(5, 0), 1, 8);
        c.asked("at(5, 1)", x, x.at(5, 1), 1, 0);
    }

    @Edge(promise = 6, says = "BAD")
    static void copyOfNoRow() {
        LimpMirror x = Checks.fresh();
        Checks.fill(x, 0, 1, 2);
        for (int r : NO_ROWS) {
            c.bad("from " + r, x, () -> x.copy(r, 0, 0, 0, 1));
            c.bad("to " + r, x, () -> x.copy(0, 0, r, 0, 1));
        }
    }

    @Edge(promise = 6, says = "BAD; SIZE: n below 0")
    static void copyBadAheadOfSize() {
        LimpMirror x = Checks.fresh();
        Checks.fill(x, 0, 1, 2);
        c.bad("from no row", x, () -> x.copy(6, 0, 0, 0, -1));
        c.bad("to no row", x, () -> x.copy(0, 0, 6, 0, -1));
        c.bad("to no row from a missing one", x, () -> x.copy(1, 0, 6, 0, 1));
    }

    @Edge(promise = 6, says = "SIZE: n below 0")
    static void copyBelowNone() {
        LimpMirror x = Checks.fresh();
        Checks.fill(x, 0, 1, 2);
        Checks.fill(x, 1, 3, 4);
        c.finds("-1", x, () -> x.copy(0, 1, 1, 1, -1), Checks.SIZE);
        c.finds("MIN", x, () -> x.copy(0, 1, 1, 1, MIN), Checks.SIZE);
    }

    @Edge(promise = 6, says = "SIZE: n below 0; NOTHING: either")
    static void copySizeAheadOfMissing() {
        LimpMirror x = Checks.fresh();
        Checks.fill(x, 0, 1, 2);
        c.finds("from a missing row", x, () -> x.copy(1, 0, 0, 0, -1), Checks.SIZE);
        c.finds("to a missing row", x, () -> x.copy(0, 0, 1, 0, -1), Checks.SIZE);
    }

    @Edge(promise = 6, says = "NOTHING: either")
    static void copyOfAMissingRow() {
        LimpMirror x = Checks.fresh();
        Checks.fill(x, 0, 1, 2);
        c.finds("from", x, () -> x.copy(1, 0, 0, 0, 1), Checks.NOTHING);
        c.finds("to", x, () -> x.copy(0, 0, 1, 0, 1), Checks.NOTHING);
        c.finds("none from", x, () -> x.copy(1, 0, 0, 0, 0), Checks.NOTHING);
        c.finds("none to", x, () -> x.copy(0, 0, 1, 0, 0), Checks.NOTHING);
        c.finds("both", x, () -> x.copy(1, 0, 2, 0, 1), Checks.NOTHING);
    }

    @Edge(promise = 6, says = "NOTHING: either; BEYOND")
    static void copyMissingAheadOfBeyond() {
        LimpMirror x = Checks.fresh();
        Checks.fill(x, 0, 1, 2);
        c.finds("to a missing row from beyond", x, () -> x.copy(0, 2, 1, 0, 1), Checks.NOTHING);
        c.finds("from a missing row to beyond", x, () -> x.copy(1, 0, 0, 2, 1), Checks.NOTHING);
    }

    @Edge(promise = 6, says = "BEYOND: not so many there")
    static void copyTooManyFrom() {
        LimpMirror x = Checks.fresh();
        Checks.fill(x, 0, 1, 2, 3);
        x.row(1, 40);
        c.finds("all and one more", x, () -> x.copy(0, 0, 1, 0, 4), Checks.BEYOND);
        c.finds("from the last one", x, () -> x.copy(0, 2, 1, 0, 2), Checks.BEYOND);
        c.finds("from behind it", x, () -> x.copy(0, 3, 1, 0, 1), Checks.BEYOND);
        c.finds("none from farther", x, () -> x.copy(0, 4, 1, 0, 0), Checks.BEYOND);
        c.finds("from below 0", x, () -> x.copy(0, -1, 1, 0, 1), Checks.BEYOND);
        c.finds("none from below 0", x, () -> x.copy(0, -1, 1, 0, 0), Checks.BEYOND);
    }

    @Edge(promise = 6, says = "BEYOND: not so many there")
    static void copyTooManyTo() {
        LimpMirror x = Checks.fresh();
        x.row(0, 40);
        Checks.fill(x, 1, 1, 2, 3);
        c.finds("all and one more", x, () -> x.copy(0, 0, 1, 0, 4), Checks.BEYOND);
        c.finds("to the last one", x, () -> x.copy(0, 0, 1, 2, 2), Checks.BEYOND);
        c.finds("to behind it", x, () -> x.copy(0, 0, 1, 3, 1), Checks.BEYOND);
        c.finds("none to farther", x, () -> x.copy(0, 0, 1, 4, 0), Checks.BEYOND);
        c.finds("to below 0", x, () -> x.copy(0, 0, 1, -1, 1), Checks.BEYOND);
        c.finds("none to below 0", x, () -> x.copy(0, 0, 1, -1, 0), Checks.BEYOND);
    }

    @Edge(promise = 6, says = "BEYOND: not so many there")
    static void copyWhereASumWouldWrapAround() {
        LimpMirror x = Checks.fresh();
        Checks.fill(x, 0, 1, 2, 3);
        x.row(1, 40);
        c.finds("MAX places", x, () -> x.copy(0, 1, 1, 1, MAX), Checks.BEYOND);
        c.finds("from MAX", x, () -> x.copy(0, MAX, 1, 0, 1), Checks.BEYOND);
        c.finds("to MAX", x, () -> x.copy(0, 0, 1, MAX, 1), Checks.BEYOND);
        c.finds("MAX from MAX", x, () -> x.copy(0, MAX, 1, MAX, MAX), Checks.BEYOND);
        c.finds("from MIN", x, () -> x.copy(0, MIN, 1, 0, MAX), Checks.BEYOND);
    }

    // ---- 7 mean

    @Edge(promise = 7, says = "cut, told by asked(): 1")
    static void meanCut() {
        LimpMirror x = new LimpMirror();
        Checks.fill(x, 0, 1, 2, 2);
        c.asked("5 by 3", x, x.mean(0), 1, 1);
        Checks.fill(x, 0, -1, -2, -2);
        c.asked("-5 by 3", x, x.mean(0), 1, -1);
        Checks.fill(x, 0, -1, 0);
        c.asked("-1 by 2", x, x.mean(0), 1, 0);
        Checks.fill(x, 0, 9);
        c.asked("of one", x, x.mean(0), 1, 9);
    }

    @Edge(promise = 7, says = "The mean of a ROW's ints")
    static void meanWhereASumWouldWrapAround() {
        LimpMirror x = new LimpMirror();
        x.row(0, 40);
        x.row(1, 40);
        for (int i = 0; i < 40; i++) {
            x.lay(0, i, MAX);
            x.lay(1, i, MIN);
        }
        c.asked("forty times MAX", x, x.mean(0), 1, MAX);
        c.asked("forty times MIN", x, x.mean(1), 1, MIN);
        Checks.fill(x, 2, MAX, 1);
        c.asked("MAX and 1", x, x.mean(2), 1, 1 << 30);
    }

    @Edge(promise = 7, says = "BAD")
    static void meanOfNoRow() {
        LimpMirror x = Checks.fresh();
        for (int r : NO_ROWS) {
            c.bad("mean(" + r + ")", x, () -> x.mean(r));
        }
    }

    @Edge(promise = 7, says = "NOTHING")
    static void meanOfAMissingRow() {
        LimpMirror x = Checks.fresh();
        c.finds("mean(5)", x, () -> x.mean(5), Checks.NOTHING);
    }

    @Edge(promise = 7, says = "NOUGHT")
    static void meanOfNone() {
        LimpMirror x = Checks.fresh();
        x.row(5, 0);
        c.finds("mean(5)", x, () -> x.mean(5), Checks.NOUGHT);
    }

    // ---- 8 text

    @Edge(promise = 8, says = "TEXTS 0 .. 3")
    static void textFirstAndLast() {
        LimpMirror x = new LimpMirror();
        c.due("text(0, 1)", x.text(0, 1), 1);
        c.due("text(3, 2)", x.text(3, 2), 2);
        c.due("count(7)", x.count(7), 2);
        c.due("put(0, 0, 1)", x.put(0, 0, 1), 1032);
        c.due("put(3, 1, 1)", x.put(3, 1, 1), 1032);
    }

    @Edge(promise = 8, says = "BAD")
    static void textOfNoNumber() {
        LimpMirror x = Checks.fresh();
        for (int t : NO_TEXTS) {
            c.bad("text(" + t + ", 1)", x, () -> x.text(t, 1));
        }
    }

    @Edge(promise = 8, says = "rows of 0 to 60 bytes")
    static void textOfNone() {
        LimpMirror x = new LimpMirror();
        c.due("text(1, 0)", x.text(1, 0), 0);
        c.due("it is there", x.count(7), 1);
        c.finds("put(1, 0, 1)", x, () -> x.put(1, 0, 1), Checks.BEYOND);
    }

    @Edge(promise = 8, says = "rows of 0 to 60 bytes")
    static void textOf60() {
        LimpMirror x = new LimpMirror();
        c.due("text(1, 60)", x.text(1, 60), 60);
        c.due("put(1, 59, 1)", x.put(1, 59, 1), 1032);
        c.finds("put(1, 60, 1)", x, () -> x.put(1, 60, 1), Checks.BEYOND);
    }

    @Edge(promise = 8, says = "BAD: also n above 60")
    static void textOf61() {
        LimpMirror x = Checks.fresh();
        c.bad("text(0, 61)", x, () -> x.text(0, 61));
        c.bad("text(0, MAX)", x, () -> x.text(0, MAX));
        Checks.write(x, 0, "h");
        c.bad("text(0, 61), there", x, () -> x.text(0, 61));
    }

    @Edge(promise = 8, says = "SIZE: below 0")
    static void textBelowNone() {
        LimpMirror x = Checks.fresh();
        c.finds("text(0, -1)", x, () -> x.text(0, -1), Checks.SIZE);
        c.finds("text(0, MIN)", x, () -> x.text(0, MIN), Checks.SIZE);
        Checks.write(x, 0, "h");
        c.finds("text(0, -1), there", x, () -> x.text(0, -1), Checks.SIZE);
    }

    @Edge(promise = 8, says = "the first of these that fits, in this order: BAD -1")
    static void textBadAheadOfSize() {
        LimpMirror x = Checks.fresh();
        c.bad("text(4, -1)", x, () -> x.text(4, -1));
        c.bad("text(-1, -1)", x, () -> x.text(-1, -1));
    }

    @Edge(promise = 8, says = "A TEXT is there with n blanks")
    static void textAnew() {
        LimpMirror x = new LimpMirror();
        Checks.write(x, 2, "abc");
        c.due("shorter", x.text(2, 2), 2);
        c.due("what was a", x.put(2, 0, 97), 1032);
        c.due("longer", x.text(2, 4), 4);
        c.due("what was a again", x.put(2, 0, 97), 1032);
        c.due("what was c", x.put(2, 2, 97), 1032);
        c.due("what was not", x.put(2, 3, 97), 1032);
    }

    // ---- 9 put

    @Edge(promise = 9, says = "cut to a byte: what it was, and 1000 more")
    static void putCutToAByte() {
        LimpMirror x = new LimpMirror();
        x.text(0, 1);
        int[] values = {127, 128, 255, 256, -1, -128, -129, MAX, MIN, 0};
        int[] bytes = {127, -128, -1, 0, -1, -128, 127, -1, 0, 0};
        int was = 32;
        for (int i = 0; i < values.length; i++) {
            c.due("put(0, 0, " + values[i] + ")", x.put(0, 0, values[i]), was + 1000);
            was = bytes[i];
        }
        c.due("what it was last", x.put(0, 0, 32), 1000);
    }

    @Edge(promise = 9, says = "Byte i of a TEXT is v")
    static void putFirstAndLastPlace() {
        LimpMirror x = new LimpMirror();
        x.text(3, 60);
        c.due("put(3, 0, 104)", x.put(3, 0, 104), 1032);
        c.due("put(3, 59, 105)", x.put(3, 59, 105), 1032);
        c.due("put(3, 0, 1)", x.put(3, 0, 1), 1104);
        c.due("put(3, 59, 1)", x.put(3, 59, 1), 1105);
        c.due("put(3, 58, 1)", x.put(3, 58, 1), 1032);
    }

    @Edge(promise = 9, says = "BAD")
    static void putOfNoText() {
        LimpMirror x = Checks.fresh();
        for (int t : NO_TEXTS) {
            c.bad("put(" + t + ", 0, 1)", x, () -> x.put(t, 0, 1));
            c.bad("put(" + t + ", -1, 1)", x, () -> x.put(t, -1, 1));
        }
    }

    @Edge(promise = 9, says = "NOTHING")
    static void putOfAMissingText() {
        LimpMirror x = Checks.fresh();
        c.finds("put(3, 0, 1)", x, () -> x.put(3, 0, 1), Checks.NOTHING);
    }

    @Edge(promise = 9, says = "NOTHING; BEYOND")
    static void putMissingAheadOfBeyond() {
        LimpMirror x = Checks.fresh();
        c.finds("put(3, -1, 1)", x, () -> x.put(3, -1, 1), Checks.NOTHING);
        c.finds("put(3, 60, 1)", x, () -> x.put(3, 60, 1), Checks.NOTHING);
    }

    @Edge(promise = 9, says = "BEYOND")
    static void putBeyond() {
        LimpMirror x = Checks.fresh();
        x.text(3, 2);
        for (int i : new int[] {-1, 2, 59, 60, MIN, MAX}) {
            c.finds("put(3, " + i + ", 1)", x, () -> x.put(3, i, 1), Checks.BEYOND);
        }
    }
}
