/** The boundary cases of promises 16 to 21: deeds, undone, kept. */
public final class DeedsEdgesTest {
    private static final Checks c = new Checks();
    private static final int MIN = Integer.MIN_VALUE, MAX = Integer.MAX_VALUE;
    private static final int[] NO_PLACES = {-1, 3, MIN, MAX};

    public static void main(String[] args) throws Exception {
        Edges.run(c, DeedsEdgesTest.class, 16, 21);
    }

    private static LimpMirror withForty(String text) {
        LimpMirror x = Checks.told(text);
        for (int i = 0; i < 40; i++) {
            x.step(0, i % 6);
        }
        return x;
    }

    // ---- 16 step

    @Edge(promise = 16, says = "MIRRORED 1 is 2, 2 is 1, each other one as it is")
    static void stepOfEachStep() {
        LimpMirror x = Checks.roomOf("h000000g3");
        int[] shown = {0, 2, 1, 3, 4, 5};
        for (int step = 0; step <= 5; step++) {
            c.due("step(0, " + step + ")", x.step(0, step), shown[step]);
        }
    }

    @Edge(promise = 16, says = "a LATE one (LIMP, too) that of the place as much ahead as its DELAY (0, if there is none)")
    static void stepBeforeALateOne() {
        for (int delay = 0; delay <= 3; delay++) {
            LimpMirror x = Checks.roomOf("h000000l" + delay);
            for (int place = 0; place < 6; place++) {
                int want = place < delay ? 0 : 3 + (place - delay) % 3;
                c.due("late by " + delay + ", place " + place, x.step(0, 3 + place % 3), want);
            }
        }
    }

    @Edge(promise = 16, says = "a LIMP one 0 at places that leave 2 divided by 3")
    static void stepBeforeALimp() {
        for (int delay = 0; delay <= 3; delay++) {
            LimpMirror x = Checks.roomOf("h000000i" + delay);
            for (int place = 0; place < 12; place++) {
                boolean isNought = place < delay || place == 2 || place == 5 || place == 8 || place == 11;
                c.due("limp by " + delay + ", place " + place, x.step(0, 4), isNought ? 0 : 4);
            }
        }
    }

    @Edge(promise = 16, says = "a THIN one (FRIEND, too) 0 at odd places")
    static void stepBeforeAThinOne() {
        LimpMirror x = Checks.roomOf("h000000t3");
        for (int place = 0; place < 40; place++) {
            c.due("place " + place, x.step(0, 1), place % 2 == 1 ? 0 : 2);
        }
    }

    @Edge(promise = 16, says = "a FRIEND one at odd places what he thinks of (not 0)")
    static void stepBeforeAFriend() {
        LimpMirror x = Checks.roomOf("h102345f3");
        int[] shown = {0, 2, 2, 0, 1, 1};
        for (int place = 0; place < 6; place++) {
            c.due("place " + place, x.step(0, place / 2), shown[place]);
        }
    }

    @Edge(promise = 16, says = "a THOUGHT one what he thinks of at that STEP")
    static void stepBeforeAThought() {
        LimpMirror x = Checks.roomOf("h125430o3");
        int[] shown = {2, 1, 5, 4, 3, 0};
        for (int step = 0; step <= 5; step++) {
            c.due("step(0, " + step + ")", x.step(0, step), shown[step]);
        }
    }

    @Edge(promise = 16, says = "their STEPS are his DOINGS, each with its own GLASS")
    static void stepLateOfWhatWasDoneBeforeAnother() {
        LimpMirror x = Checks.roomOf("h000000g0l1");
        x.step(0, 1);
        c.due("late of what was done before a glass", x.step(1, 5), 2);
        c.due("a glass behind a late one", x.step(0, 3), 3);
    }

    @Edge(promise = 16, says = "BAD")
    static void stepOfNoGlassAndNoStep() {
        LimpMirror x = Checks.told("h000000g0l1n12");
        for (int k : new int[] {-1, 2, 6, MIN, MAX}) {
            c.bad("step(" + k + ", 0)", x, () -> x.step(k, 0));
        }
        for (int step : new int[] {-1, 6, MIN, MAX}) {
            c.bad("step(0, " + step + ")", x, () -> x.step(0, step));
        }
        LimpMirror y = Checks.fresh();
        c.bad("without a room", y, () -> y.step(0, 0));
    }

    @Edge(promise = 16, says = "These are DEEDS 0, 1, .. (40 at most)")
    static void stepTheFortieth() {
        LimpMirror x = Checks.roomOf("h000000g0n12");
        for (int i = 0; i < 39; i++) {
            x.step(0, 0);
        }
        c.due("the fortieth", x.step(0, 1), 2);
        c.due("deeds", x.count(2), 40);
        c.asked("the last one's term", x, x.deed(39, 3), 1, 0);
    }

    @Edge(promise = 16, says = "FULL: 40 DEEDS")
    static void stepTheFortyFirst() {
        LimpMirror x = withForty("h000000g0n12");
        c.full("the forty-first", x, () -> x.step(0, 1));
        x.undo(39);
        c.due("behind undo", x.step(0, 4), 4);
        c.full("full again", x, () -> x.step(0, 1));
    }

    @Edge(promise = 16, says = "BAD; FULL")
    static void stepBadAheadOfFull() {
        LimpMirror x = withForty("h000000g0n12");
        c.bad("no glass", x, () -> x.step(1, 0));
        c.bad("no step", x, () -> x.step(0, 6));
    }

    // ---- 17 deed

    @Edge(promise = 17, says = "Of a DEED: 0 the STEP, 1 the GLASS, 2 what was SHOWN")
    static void deedFirstAndLast() {
        LimpMirror x = withForty("h000000g0l1n12");
        x.undo(39);
        x.step(1, 5);
        int[][] want = {{0, 0, 0, LimpMirror.NONE}, {5, 1, 1, LimpMirror.NONE}};
        for (int what = 0; what <= 3; what++) {
            c.asked("deed(0, " + what + ")", x, x.deed(0, what), 1, want[0][what]);
            c.asked("deed(39, " + what + ")", x, x.deed(39, what), 1, want[1][what]);
        }
    }

    @Edge(promise = 17, says = "3 the TERM that was BROKEN (the first; NONE)")
    static void deedOfTwoTermsAndOfNone() {
        LimpMirror x = Checks.roomOf("h000000g0n00n12n12n33");
        Checks.steps(x, 0, 1, 2, 0, 3);
        c.asked("the first of two", x, x.deed(0, 3), 1, 1);
        c.asked("none", x, x.deed(1, 3), 1, LimpMirror.NONE);
        c.asked("term 0", x, x.deed(2, 3), 1, 0);
        c.asked("the last term", x, x.deed(3, 3), 1, 3);
    }

    @Edge(promise = 17, says = "A TERM x, y is BROKEN at a place, if he does x there, and y is SHOWN")
    static void deedOfHalfATerm() {
        LimpMirror x = Checks.roomOf("h000000l1n12");
        Checks.steps(x, 0, 1, 1, 0);
        c.asked("he does x, 0 is shown", x, x.deed(0, 3), 1, LimpMirror.NONE);
        c.asked("he does x, y is shown", x, x.deed(1, 3), 1, 0);
        c.asked("y is shown, he does 0", x, x.deed(2, 3), 1, LimpMirror.NONE);
    }

    @Edge(promise = 17, says = "BAD")
    static void deedOfNoNumber() {
        LimpMirror x = Checks.told("h000000g0n12");
        c.bad("no deeds", x, () -> x.deed(0, 0));
        Checks.steps(x, 0, 1, 2);
        for (int d : new int[] {-1, 2, 40, MIN, MAX}) {
            c.bad("deed(" + d + ", 0)", x, () -> x.deed(d, 0));
        }
        for (int what : new int[] {-1, 4, MIN, MAX}) {
            c.bad("deed(0, " + what + ")", x, () -> x.deed(0, what));
        }
        x.undo(1);
        c.bad("an undone one", x, () -> x.deed(1, 0));
    }

    // ---- 18 broken

    @Edge(promise = 18, says = "How many DEEDS broke a TERM; the first by asked() (NONE)")
    static void brokenNone() {
        LimpMirror x = Checks.fresh();
        c.asked("without a room", x, x.broken(), 0, LimpMirror.NONE);
        LimpMirror y = Checks.told("h000000g0n12");
        c.asked("no deeds", y, y.broken(), 0, LimpMirror.NONE);
        y.step(0, 2);
        c.asked("none broke", y, y.broken(), 0, LimpMirror.NONE);
    }

    @Edge(promise = 18, says = "the first by asked()")
    static void brokenFirstAndLast() {
        LimpMirror x = Checks.roomOf("h000000g0n12n12");
        for (int i = 0; i < 39; i++) {
            x.step(0, 0);
        }
        x.step(0, 1);
        c.asked("the last alone", x, x.broken(), 1, 39);
        x.undo(0);
        for (int i = 0; i < 40; i++) {
            x.step(0, 1);
        }
        c.asked("all", x, x.broken(), 40, 0);
        x.undo(0);
        c.asked("all undone", x, x.broken(), 0, LimpMirror.NONE);
    }

    // ---- 19 undo

    @Edge(promise = 19, says = "DEEDS from number n on are undone: how many")
    static void undoAllAndTheLast() {
        LimpMirror x = withForty("h000000g0n12");
        c.due("the last one", x.undo(39), 1);
        c.due("deeds", x.count(2), 39);
        c.due("all", x.undo(0), 39);
        c.due("no deeds", x.count(2), 0);
        c.due("none broken", x.count(3), 0);
    }

    @Edge(promise = 19, says = "how many")
    static void undoNone() {
        LimpMirror x = Checks.told("h000000g0n12");
        c.due("of none", x.undo(0), 0);
        Checks.steps(x, 0, 1, 2);
        long digest = x.digest();
        c.due("from behind the last one on", x.undo(2), 0);
        c.due("as it was", x.digest(), digest);
    }

    @Edge(promise = 19, says = "BAD")
    static void undoOfNoNumber() {
        LimpMirror x = Checks.told("h000000g0n12");
        c.bad("undo(1) of none", x, () -> x.undo(1));
        Checks.steps(x, 0, 1, 2);
        for (int n : new int[] {-1, 3, 40, MIN, MAX}) {
            c.bad("undo(" + n + ")", x, () -> x.undo(n));
        }
    }

    @Edge(promise = 19, says = "DEEDS from number n on are undone")
    static void undoThenDoOn() {
        LimpMirror x = Checks.roomOf("h000000l1n30");
        Checks.steps(x, 0, 1, 4, 5);
        x.undo(1);
        c.due("late of what is left", x.step(0, 3), 2);
        c.due("late of the new one", x.step(0, 0), 3);
        x.undo(0);
        c.due("from the first place on", x.step(0, 3), 0);
        c.asked("the term it breaks there", x, x.deed(0, 3), 1, 0);
    }

    @Edge(promise = 19, says = "DEEDS from number n on are undone")
    static void undoLeavesWhatIsKept() {
        LimpMirror x = Checks.roomOf("h000000g0n12");
        Checks.steps(x, 0, 1, 2);
        x.keep(0);
        x.undo(0);
        c.due("kept rooms", x.count(8), 1);
        c.due("on(0)", x.on(0), 2);
    }

    // ---- 20 keep

    @Edge(promise = 20, says = "kept in a place (0 .. 2): how many DEEDS")
    static void keepInFirstAndLastPlace() {
        LimpMirror x = withForty("h000000g0n12");
        c.due("forty in place 2", x.keep(2), 40);
        x.undo(0);
        c.due("none in place 0", x.keep(0), 0);
        c.due("kept rooms", x.count(8), 2);
        c.due("on(2)", x.on(2), 40);
        c.due("on(0)", x.on(0), 0);
    }

    @Edge(promise = 20, says = "The ROOM (DEEDS) is kept in a place")
    static void keepOverAnother() {
        LimpMirror x = Checks.roomOf("h000000g0n12");
        Checks.steps(x, 0, 1, 2, 3);
        x.keep(1);
        x.undo(0);
        x.step(0, 5);
        c.due("keep(1) again", x.keep(1), 1);
        c.due("kept rooms", x.count(8), 1);
        x.undo(0);
        c.due("on(1)", x.on(1), 1);
        c.asked("the later one", x, x.deed(0, 0), 1, 5);
    }

    @Edge(promise = 20, says = "BAD")
    static void keepInNoPlace() {
        LimpMirror x = Checks.told(Checks.FAIR);
        for (int k : NO_PLACES) {
            c.bad("keep(" + k + ")", x, () -> x.keep(k));
        }
    }

    @Edge(promise = 20, says = "STATE: no GLASSES")
    static void keepWithoutGlasses() {
        LimpMirror x = Checks.fresh();
        for (int k = 0; k <= 2; k++) {
            int place = k;
            c.state("keep(" + k + ")", x, () -> x.keep(place));
        }
    }

    @Edge(promise = 20, says = "BAD; STATE")
    static void keepBadAheadOfState() {
        LimpMirror x = Checks.fresh();
        c.bad("keep(3)", x, () -> x.keep(3));
        c.bad("keep(-1)", x, () -> x.keep(-1));
    }

    // ---- 21 on

    @Edge(promise = 21, says = "The ROOM is as it was kept: how many DEEDS")
    static void onAsItWasKept() {
        LimpMirror x = Checks.roomOf(Checks.FAIR);
        for (int i = 0; i < 12; i++) {
            x.step(i % 6, i / 2);
        }
        x.keep(0);
        long digest = x.digest();
        for (int i = 0; i < 28; i++) {
            x.step(i % 6, 5);
        }
        c.due("on(0)", x.on(0), 12);
        c.due("as it was", x.digest(), digest);
        x.undo(0);
        Checks.steps(x, 0, 4, 4, 4);
        c.due("on(0) again", x.on(0), 12);
        c.due("as it was, again", x.digest(), digest);
    }

    @Edge(promise = 21, says = "The ROOM is as it was kept: how many DEEDS")
    static void onOfNoneAndOfForty() {
        LimpMirror x = Checks.roomOf("h000000g0n12");
        x.keep(0);
        for (int i = 0; i < 40; i++) {
            x.step(0, i % 6);
        }
        x.keep(1);
        x.undo(0);
        for (int i = 0; i < 40; i++) {
            x.step(0, 5);
        }
        c.due("on forty", x.on(1), 40);
        for (int i = 0; i < 40; i++) {
            c.asked("step of deed " + i, x, x.deed(i, 0), 1, i % 6);
        }
        c.asked("the last one's term", x, x.deed(37, 3), 1, 0);
        c.due("on none", x.on(0), 0);
        c.due("no deeds", x.count(2), 0);
    }

    @Edge(promise = 21, says = "The ROOM is as it was kept")
    static void onThenDoOnLeavesWhatIsKept() {
        LimpMirror x = Checks.roomOf("h000000l1n30");
        x.step(0, 2);
        x.keep(2);
        x.on(2);
        c.due("goes on", x.step(0, 3), 1);
        x.undo(0);
        c.due("from the first place on", x.step(0, 5), 0);
        c.due("on(2)", x.on(2), 1);
        c.asked("what was kept", x, x.deed(0, 0), 1, 2);
    }

    @Edge(promise = 21, says = "BAD")
    static void onOfNoPlace() {
        LimpMirror x = Checks.told(Checks.FAIR);
        x.keep(0);
        x.keep(2);
        for (int k : NO_PLACES) {
            c.bad("on(" + k + ")", x, () -> x.on(k));
        }
        LimpMirror y = Checks.fresh();
        c.bad("on(3) without a room", y, () -> y.on(3));
    }

    @Edge(promise = 21, says = "NOTHING")
    static void onOfAMissingOne() {
        LimpMirror x = Checks.told("h000000g0n12");
        x.step(0, 1);
        x.keep(1);
        c.finds("on(0)", x, () -> x.on(0), Checks.NOTHING);
        c.finds("on(2)", x, () -> x.on(2), Checks.NOTHING);
        LimpMirror y = Checks.fresh();
        c.finds("without a room", y, () -> y.on(0), Checks.NOTHING);
        x.room(0);
        c.finds("behind a new room", x, () -> x.on(1), Checks.NOTHING);
    }
}
