import java.util.function.IntSupplier;

/** The boundary cases of promises 39 to 45: what is told. */
public final class ToldEdgesTest {
    private static final Checks c = new Checks();
    private static final int MIN = Integer.MIN_VALUE, MAX = Integer.MAX_VALUE;

    public static void main(String[] args) throws Exception {
        Edges.run(c, ToldEdgesTest.class, 39, 45);
    }

    /** asked() tells 77, rows 0 (1, 2), 1 (2, 1) and 3 (none) are there, a deed was done. */
    private static LimpMirror ready() {
        LimpMirror x = Checks.told("h000000g0l1n12");
        Checks.fill(x, 0, "12");
        Checks.fill(x, 1, "21");
        x.row(3, 0);
        x.step(0, 1);
        Checks.fill(x, 4, 77);
        x.at(4, 0);
        return x;
    }

    private static void tells(String call, LimpMirror x, IntSupplier made, int asked) {
        c.due("asked() ahead of " + call, x.asked(), 77);
        made.getAsInt();
        c.due("asked() behind " + call, x.asked(), asked);
        x.at(4, 0);
    }

    private static void tellsNothing(String call, LimpMirror x, IntSupplier made) {
        int got = made.getAsInt();
        c.due(call + " is not refused", got >= 0 ? 1 : 0, 1);
        c.due("asked() behind " + call, x.asked(), 77);
    }

    // ---- 39 asked

    @Edge(promise = 39, says = "0 before")
    static void askedBefore() {
        LimpMirror x = new LimpMirror();
        c.due("at first", x.asked(), 0);
        x.row(0, 2);
        x.at(0, 2);
        x.lay(1, 0, 9);
        c.due("behind refused ones", x.asked(), 0);
    }

    @Edge(promise = 39, says = "What the latest lay(), at(), mean(), glass(), deed(), broken(), breaks(), fit(), next(), he(), keeps()")
    static void askedOfEachCall() {
        LimpMirror x = ready();
        tells("lay", x, () -> x.lay(0, 1, 2), 2);
        tells("at", x, () -> x.at(0, 0), 1);
        tells("mean", x, () -> x.mean(0), 1);
        tells("glass", x, () -> x.glass(1, 1), 1);
        tells("deed", x, () -> x.deed(0, 2), 2);
        tells("broken", x, () -> x.broken(), 0);
        tells("breaks", x, () -> x.breaks(0, 0), 1);
        tells("fit", x, () -> x.fit(0, 1), 0);
        tells("next", x, () -> x.next(3, 3), 14);
        tells("he", x, () -> x.he(1, 0, 1), 0);
        tells("keeps", x, () -> x.keeps(0, 1), 61);
    }

    @Edge(promise = 39, says = "(nor NONE, but as told)")
    static void askedBehindNone() {
        LimpMirror x = ready();
        Checks.fill(x, 2, 5, 4);
        x.at(4, 0);
        c.due("next is NONE", x.next(0, 2), LimpMirror.NONE);
        c.due("asked() behind next", x.asked(), 77);
        c.due("breaks is NONE", x.breaks(0, 2), LimpMirror.NONE);
        c.due("asked() behind breaks", x.asked(), 0);
        x.at(4, 0);
        x.fit(0, 0);
        c.due("asked() behind fit", x.asked(), LimpMirror.NONE);
        x.at(4, 0);
        x.he(0, 3, 3);
        c.due("asked() behind he", x.asked(), LimpMirror.NONE);
        x.at(4, 0);
        x.undo(0);
        x.broken();
        c.due("asked() behind broken", x.asked(), LimpMirror.NONE);
    }

    @Edge(promise = 39, says = "that was not refused")
    static void askedBehindRefused() {
        LimpMirror x = ready();
        IntSupplier[] calls = {
            () -> x.lay(0, 2, 5), () -> x.lay(5, 0, 5), () -> x.lay(6, 0, 5), () -> x.at(0, 2),
            () -> x.mean(3), () -> x.mean(5), () -> x.glass(2, 0), () -> x.glass(0, 4),
            () -> x.deed(1, 0), () -> x.deed(0, 4), () -> x.breaks(0, 5), () -> x.breaks(2, 0),
            () -> x.fit(0, 3), () -> x.fit(0, 5), () -> x.next(0, 3), () -> x.next(6, 0),
            () -> x.he(0, 0, 3), () -> x.he(2, 0, 0), () -> x.keeps(0, 6), () -> x.keeps(2, 0),
        };
        for (int i = 0; i < calls.length; i++) {
            c.due("call " + i + " is refused", calls[i].getAsInt() < 0 ? 1 : 0, 1);
            c.due("asked() behind call " + i, x.asked(), 77);
        }
    }

    @Edge(promise = 39, says = "What the latest lay(), at(), mean(), glass(), deed(), broken(), breaks(), fit(), next(), he(), keeps()")
    static void askedBehindOtherCalls() {
        LimpMirror x = ready();
        tellsNothing("row", x, () -> x.row(2, 3));
        tellsNothing("copy", x, () -> x.copy(0, 0, 2, 0, 2));
        tellsNothing("tear", x, () -> x.tear(2));
        tellsNothing("text", x, () -> x.text(3, 3));
        tellsNothing("put", x, () -> x.put(3, 0, 104));
        tellsNothing("fault", x, () -> x.fault(3));
        tellsNothing("mark", x, () -> x.mark(1, 1));
        tellsNothing("habit", x, () -> x.habit(0));
        tellsNothing("term", x, () -> x.term(0, 0));
        tellsNothing("step", x, () -> x.step(0, 1));
        tellsNothing("keep", x, () -> x.keep(0));
        tellsNothing("undo", x, () -> x.undo(0));
        tellsNothing("on", x, () -> x.on(0));
        tellsNothing("show", x, () -> x.show(0, 0, 2));
        tellsNothing("alike", x, () -> x.alike(0, 0));
        tellsNothing("ways", x, () -> x.ways(0, 0));
        tellsNothing("first", x, () -> x.first(0, 0, 2));
        tellsNothing("can", x, () -> x.can(0, 0, 0));
        tellsNothing("laws", x, () -> x.laws(0, 1));
        tellsNothing("still", x, () -> x.still(0, 5));
        tellsNothing("game", x, () -> x.game(3));
        tellsNothing("picks", x, () -> x.picks(3));
        tellsNothing("odds", x, () -> x.odds(0, 0, 3));
        tellsNothing("mid", x, () -> x.mid(0, 0, 3));
        tellsNothing("lots", x, () -> x.lots(3, 3));
        tellsNothing("asked", x, () -> x.asked());
        tellsNothing("count", x, () -> x.count(3));
        tellsNothing("finding", x, () -> x.finding());
        tellsNothing("findings", x, () -> x.findings(1));
        tellsNothing("digest", x, () -> x.digest() == 0 ? -1 : 0);
        tellsNothing("room", x, () -> x.room(0));
    }

    // ---- 40, 41 upper, lower

    @Edge(promise = 40, says = "0 before")
    static void upperBefore() {
        LimpMirror x = new LimpMirror();
        c.due("at first", x.upper(), 0);
        x.ways(0, 0);
        x.keeps(0, 1);
        c.due("behind refused ones", x.upper(), 0);
    }

    @Edge(promise = 41, says = "1 before")
    static void lowerBefore() {
        LimpMirror x = new LimpMirror();
        c.due("at first", x.lower(), 1);
        x.odds(0, 0, 0);
        x.mid(0, 0, 0);
        c.due("behind refused ones", x.lower(), 1);
    }

    @Edge(promise = 40, says = "The upper number that was told last")
    static void upperLeastAndGreatest() {
        LimpMirror x = Checks.told("h000000g0n12");
        Checks.fill(x, 0, "111111111111");
        x.odds(0, 0, 0);
        c.due("none", x.upper(), 0);
        x.odds(0, 0, 11);
        c.due("more than an int holds", x.upper(), 3138428376721L);
        x.mid(0, 0, 1);
        c.due("told last", x.upper(), 11);
    }

    @Edge(promise = 41, says = "Its lower number")
    static void lowerLeastAndGreatest() {
        LimpMirror x = Checks.told("h000000g0n12");
        Checks.fill(x, 0, "111111111111");
        x.odds(0, 0, 1);
        c.due("more than an int holds", x.lower(), 8916100448256L);
        x.odds(0, 0, 0);
        c.due("0 by 1", x.lower(), 1);
        x.odds(0, 0, 6);
        c.due("told last", x.lower(), 4096);
        x.keeps(0, 5);
        c.due("of rows", x.lower(), 1);
    }

    @Edge(promise = 40, says = "What is refused changes nothing but finding(), findings()")
    static void upperBehindRefusedAndOthers() {
        LimpMirror x = Checks.told("h000000g0n12");
        Checks.fill(x, 0, "12");
        c.bad("ways", x, () -> x.ways(1, 0));
        c.bad("keeps", x, () -> x.keeps(0, 6));
        c.bad("odds", x, () -> x.odds(0, 0, 13));
        c.finds("mid", x, () -> x.mid(0, 5, 1), Checks.NOTHING);
        x.first(0, 0, 1);
        x.still(0, 5);
        x.mean(0);
        x.game(3);
        x.laws(0, 1);
        c.due("upper() behind others", x.upper(), 5);
        c.due("lower() behind others", x.lower(), 12);
    }

    // ---- 42 count

    @Edge(promise = 42, says = "0 GLASSES, 1 TERMS, 2 DEEDS, 3 DEEDS that broke a TERM")
    static void countOfAllThatCanBe() {
        LimpMirror x = Checks.roomOf("h000000g0l0i0i1t0f0n12n12n12n12n12n12n12n12");
        for (int i = 0; i < 40; i++) {
            x.step(0, 1);
        }
        for (int k = 0; k <= 2; k++) {
            x.keep(k);
        }
        for (int r = 0; r <= 5; r++) {
            x.row(r, r);
        }
        for (int t = 0; t <= 3; t++) {
            x.text(t, t);
        }
        int[] want = {6, 8, 40, 40, 3, 2, 6, 4, 3};
        for (int what = 0; what <= 8; what++) {
            c.due("count(" + what + ")", x.count(what), want[what]);
        }
    }

    @Edge(promise = 42, says = "4 LATE ones (LIMPS, too), 5 THIN ones (FRIENDS, too)")
    static void countOfEachKind() {
        String letters = "gltoif";
        int[] late = {0, 1, 0, 0, 1, 0};
        int[] thin = {0, 0, 1, 0, 0, 1};
        for (int kind = 0; kind <= 5; kind++) {
            LimpMirror x = Checks.roomOf("h000000" + letters.charAt(kind) + "0");
            c.due("late ones of " + letters.charAt(kind), x.count(4), late[kind]);
            c.due("thin ones of " + letters.charAt(kind), x.count(5), thin[kind]);
        }
        LimpMirror x = Checks.roomOf("h000000i0i1i2l0l1l2");
        c.due("six late ones", x.count(4), 6);
        LimpMirror y = Checks.roomOf("h000000f0f1f2t0t1t2");
        c.due("six thin ones", y.count(5), 6);
    }

    @Edge(promise = 42, says = "6 ROWS, 7 TEXTS that are there")
    static void countOfEmptyAndTornRows() {
        LimpMirror x = new LimpMirror();
        x.row(0, 0);
        x.text(3, 0);
        c.due("an empty row", x.count(6), 1);
        c.due("an empty text", x.count(7), 1);
        x.row(0, 3);
        c.due("the same row anew", x.count(6), 1);
        x.tear(0);
        c.due("a torn row", x.count(6), 0);
    }

    @Edge(promise = 42, says = "BAD")
    static void countOfNoNumber() {
        LimpMirror x = Checks.told(Checks.FAIR);
        for (int what : new int[] {-1, 9, MIN, MAX}) {
            c.bad("count(" + what + ")", x, () -> x.count(what));
        }
    }

    // ---- 43 finding

    @Edge(promise = 43, says = "The latest FINDING (0 before any)")
    static void findingBeforeAny() {
        LimpMirror x = new LimpMirror();
        c.due("at first", x.finding(), 0);
        x.row(6, 0);
        x.keep(0);
        x.step(0, 0);
        c.due("behind BAD and STATE", x.finding(), 0);
    }

    @Edge(promise = 43, says = "1 NOTHING (a ROW, a TEXT, a kept ROOM that is missing), 2 BEYOND")
    static void findingOfEachKind() {
        LimpMirror x = Checks.told("h000000g0n12");
        x.row(0, 0);
        c.finds("a missing row", x, () -> x.at(5, 0), 1);
        c.finds("a place of a row", x, () -> x.at(0, 0), 2);
        c.finds("a missing text", x, () -> x.fault(3), 1);
        c.finds("a glass of another kind", x, () -> x.mark(0, 1), 3);
        c.finds("a missing kept room", x, () -> x.on(0), 1);
        c.finds("a place of a text", x, () -> x.put(0, 12, 1), 2);
        c.finds("shared among none", x, () -> x.mean(0), 4);
        c.finds("fewer than none", x, () -> x.row(0, -1), 5);
        Checks.fill(x, 1, 6);
        c.finds("a number that is none", x, () -> x.alike(0, 1), 3);
        x.row(1, 13);
        c.finds("too many", x, () -> x.alike(0, 1), 5);
    }

    @Edge(promise = 43, says = "The latest FINDING")
    static void findingStaysBehindOthers() {
        LimpMirror x = Checks.told("h000000g0n12");
        x.at(5, 0);
        x.row(0, 1);
        x.at(0, 0);
        c.due("behind good ones", x.finding(), 1);
        x.row(6, 0);
        c.due("behind BAD", x.finding(), 1);
        x.text(1, 0);
        x.room(1);
        c.due("behind STATE", x.finding(), 1);
        for (int i = 0; i < 41; i++) {
            x.step(0, 0);
        }
        c.due("behind FULL", x.finding(), 1);
        x.room(0);
        c.due("behind a new room", x.finding(), 1);
    }

    // ---- 44 findings

    @Edge(promise = 44, says = "How often a FINDING (1 .. 5) was answered")
    static void findingsFirstAndLast() {
        LimpMirror x = new LimpMirror();
        for (int f = 1; f <= 5; f++) {
            c.due("findings(" + f + ") at first", x.findings(f), 0);
        }
        for (int i = 1; i <= 200; i++) {
            x.at(5, 0);
            x.row(5, -1);
        }
        c.due("findings(1)", x.findings(1), 200);
        c.due("findings(2)", x.findings(2), 0);
        c.due("findings(4)", x.findings(4), 0);
        c.due("findings(5)", x.findings(5), 200);
        x.room(0);
        c.due("findings(1), a text", x.findings(1), 201);
    }

    @Edge(promise = 44, says = "BAD")
    static void findingsOfNoNumber() {
        LimpMirror x = Checks.told(Checks.FAIR);
        x.at(5, 0);
        for (int f : new int[] {0, 6, -1, MIN, MAX}) {
            c.bad("findings(" + f + ")", x, () -> x.findings(f));
        }
    }

    // ---- 45 digest

    private static long hash(long h, int... values) {
        long all = h;
        for (int v : values) {
            all = 31 * all + v;
        }
        return all;
    }

    @Edge(promise = 45, says = "h = 17; then h = 31 h + v for each v")
    static void digestOfANewObject() {
        long h = hash(17, 0, 0, 0, 0, 0, 0, 0, 0, 0);
        h = hash(h, 0, 0, 0, 0, 0, 0);
        h = hash(h, -1, -1, -1);
        h = hash(h, -1, -1, -1, -1, -1, -1, -1, -1, -1, -1);
        c.due("digest()", new LimpMirror().digest(), h);
    }

    @Edge(promise = 45, says = "of each ROW its size (-1: missing) and places, of each TEXT likewise")
    static void digestOfEmptyAndMissingOnes() {
        LimpMirror x = new LimpMirror();
        x.row(0, 0);
        x.row(5, 1);
        x.text(0, 0);
        x.text(3, 2);
        x.put(3, 0, 128);
        long h = hash(17, 0, 0, 0, 0, 0, 0, 2, 2, 0);
        h = hash(h, 0, 0, 0, 0, 0, 0);
        h = hash(h, -1, -1, -1);
        h = hash(h, 0, -1, -1, -1, -1, 1, 0);
        h = hash(h, 0, -1, -1, 2, -128, 32);
        c.due("digest()", x.digest(), h);
    }

    @Edge(promise = 45, says = "of each kept ROOM how many DEEDS (-1: missing)")
    static void digestOfKeptRooms() {
        LimpMirror x = Checks.roomOf("h012345f3n12");
        x.keep(0);
        x.step(0, 1);
        x.keep(2);
        x.text(0, 0);
        long h = hash(17, 1, 1, 1, 1, 0, 1, 0, 1, 2);
        h = hash(h, 0, 1, 2, 3, 4, 5);
        h = hash(h, 5, 3, 1, 1);
        h = hash(h, 1, 2);
        h = hash(h, 1, 0, 2, 0);
        h = hash(h, 0, -1, 1);
        h = hash(h, -1, -1, -1, -1, -1, -1, 0, -1, -1, -1);
        c.due("digest()", x.digest(), h);
    }

    @Edge(promise = 45, says = "h = 31 h + v for each v")
    static void digestWrapsAround() {
        LimpMirror x = new LimpMirror();
        long h = hash(17, 0, 0, 0, 0, 0, 0, 2, 1, 0);
        h = hash(h, 0, 0, 0, 0, 0, 0);
        h = hash(h, -1, -1, -1);
        for (int r = 0; r <= 1; r++) {
            x.row(r, 40);
            h = hash(h, 40);
            for (int i = 0; i < 40; i++) {
                x.lay(r, i, r == 0 ? MAX - i : MIN + i);
                h = hash(h, r == 0 ? MAX - i : MIN + i);
            }
        }
        h = hash(h, -1, -1, -1, -1);
        x.text(0, 60);
        h = hash(h, 60);
        for (int i = 0; i < 60; i++) {
            x.put(0, i, 100 + i);
            h = hash(h, (byte) (100 + i));
        }
        h = hash(h, -1, -1, -1);
        c.due("digest()", x.digest(), h);
    }

    @Edge(promise = 45, says = "of each DEED deed() 0 to 3")
    static void digestOfFortyDeedsAndAllThatCanBe() {
        LimpMirror x = Checks.roomOf(Checks.FAIR);
        for (int i = 0; i < 40; i++) {
            x.step(i % 6, i / 7);
        }
        x.text(0, 0);
        long h = 17;
        for (int what = 0; what <= 8; what++) {
            h = hash(h, x.count(what));
        }
        h = hash(h, 3, 0, 1, 2, 5, 4);
        for (int k = 0; k < 6; k++) {
            for (int what = 0; what <= 3; what++) {
                x.glass(k, what);
                h = hash(h, x.asked());
            }
        }
        h = hash(h, 1, 2, 3, 0, 0, 0, 5, 5);
        for (int d = 0; d < 40; d++) {
            for (int what = 0; what <= 3; what++) {
                x.deed(d, what);
                h = hash(h, x.asked());
            }
        }
        h = hash(h, -1, -1, -1, -1, -1, -1, -1, -1, -1, 0, -1, -1, -1);
        c.due("digest()", x.digest(), h);
    }
}
