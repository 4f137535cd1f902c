/** The boundary cases of promises 10 to 15: what a text says of a room, and what stands in the room. */
public final class RoomsEdgesTest {
    private static final Checks c = new Checks();
    private static final int MIN = Integer.MIN_VALUE, MAX = Integer.MAX_VALUE;
    private static final int[] NO_TEXTS = {-1, 4, MIN, MAX};
    /** As much as a text can hold: 60 bytes, six glasses, eight terms. */
    private static final String MOST = " h000000 f3 i3 o3 t3 l3 g3 n55 n54 n53 n52 n51 n50 n45 n44  ";

    public static void main(String[] args) throws Exception {
        Edges.run(c, RoomsEdgesTest.class, 10, 15);
    }

    /** The FAULT of a text, by which room() is refused just then. */
    private static void fault(String text, int want) {
        LimpMirror x = Checks.told(Checks.FAIR);
        Checks.write(x, 1, text);
        long digest = x.digest();
        c.due("fault of \"" + text + "\"", x.fault(1), want);
        c.due("what fault of \"" + text + "\" changed", x.digest() - digest, 0);
        if (want == LimpMirror.NONE) {
            c.due("room of \"" + text + "\"", x.room(1) > 0 ? 1 : 0, 1);
        } else {
            c.state("room of \"" + text + "\"", x, () -> x.room(1));
        }
    }

    private static void noFault(String text) {
        fault(text, LimpMirror.NONE);
    }

    // ---- 10 fault

    @Edge(promise = 10, says = "A FAULT of a TEXT; NONE: there is none")
    static void faultNone() {
        LimpMirror x = Checks.fresh();
        Checks.write(x, 3, "h012345g0");
        c.none("fault(3)", x, () -> x.fault(3));
        c.due("no room of it", x.count(0), 0);
        c.due("no habits of it", x.habit(5), 0);
    }

    @Edge(promise = 10, says = "BAD")
    static void faultOfNoText() {
        LimpMirror x = Checks.fresh();
        for (int t : NO_TEXTS) {
            c.bad("fault(" + t + ")", x, () -> x.fault(t));
        }
    }

    @Edge(promise = 10, says = "NOTHING")
    static void faultOfAMissingText() {
        LimpMirror x = Checks.fresh();
        for (int t = 0; t <= 3; t++) {
            int text = t;
            c.finds("fault(" + t + ")", x, () -> x.fault(text), Checks.NOTHING);
        }
    }

    @Edge(promise = 10, says = "blanks (32) ahead, between, behind as many as wanted")
    static void faultNoneByBlanks() {
        noFault("h012345g0n00");
        noFault(" h012345 g0 n00 ");
        noFault("     h012345        g0    g1       n00     n11        ");
        noFault("h012345 g0" + " ".repeat(50));
        noFault(" ".repeat(51) + "h012345g0");
        noFault("h012345" + " ".repeat(51) + "g0");
    }

    @Edge(promise = 10, says = "blanks (32)")
    static void faultOfABlankOfAnotherNumber() {
        fault("\th012345g0", 0);
        fault("h012345\ng0", 7);
        fault("h012345g0!", 9);
        fault("h012345g0\u001f", 9);
        fault("h012345g0\u0000", 9);
    }

    @Edge(promise = 10, says = "none within items")
    static void faultOfABlankWithin() {
        fault("h 012345g0", 1);
        fault("h01234 5g0", 6);
        fault("h012345 g 0", 9);
        fault("h012345 g0 n 00", 12);
        fault("h012345 g0 n0 0", 13);
    }

    @Edge(promise = 10, says = "First h (104)")
    static void faultOfNoHabits() {
        fault("g0", 0);
        fault("  n00", 2);
        fault("H012345g0", 0);
        fault("g012345g0", 0);
        fault("i012345g0", 0);
        fault("0123456g0", 0);
        fault("h012345 h012345 g0", 8);
    }

    @Edge(promise = 10, says = "HABITS: of each STEP 0 to 5 which one he thinks of then (six figures 0 .. 5)")
    static void faultOfAHabit() {
        noFault("h000000g0");
        noFault("h555555g0");
        fault("h6", 1);
        for (int i = 1; i <= 6; i++) {
            fault("h0000000".substring(0, i) + "6" + "000000".substring(i) + "g0", i);
            fault("h0000000".substring(0, i) + "/" + "000000".substring(i) + "g0", i);
        }
        fault("h01234g0", 6);
        fault("h0123450g0", 7);
    }

    @Edge(promise = 10, says = "GLASSES (1 to 6")
    static void faultOfNoGlass() {
        fault("h012345", 7);
        fault("h012345   ", 10);
        noFault("h012345g0");
    }

    @Edge(promise = 10, says = "a seventh GLASS")
    static void faultOfASeventhGlass() {
        noFault("h012345g0l1t2o3i0f1");
        fault("h012345g0l1t2o3i0f1g0", 19);
        fault("h012345g0l1t2o3i0f1   g0", 22);
        fault("h012345g0l1t2o3i0f1g", 19);
        fault("h012345g0l1t2o3i0f1g9", 19);
    }

    @Edge(promise = 10, says = "a letter, the DELAY (0 .. 3, one figure)")
    static void faultOfADelay() {
        for (char letter : "gltoif".toCharArray()) {
            noFault("h012345" + letter + "0");
            noFault("h012345" + letter + "3");
            fault("h012345" + letter + "4", 8);
            fault("h012345" + letter + "/", 8);
            fault("h012345" + letter + letter, 8);
        }
        fault("h012345g00", 9);
        fault("h012345g-1", 8);
    }

    @Edge(promise = 10, says = "(a letter, a figure that is none such")
    static void faultOfALetter() {
        fault("h012345x0", 7);
        fault("h012345G0", 7);
        fault("h0123450", 7);
        for (char letter : "eghijklmnopqrstuv".toCharArray()) {
            boolean isGlass = "gltoif".indexOf(letter) >= 0;
            fault("h012345g0" + letter + "0", isGlass ? LimpMirror.NONE : letter == 'n' ? 11 : 9);
        }
        fault("h012345g0n00x", 12);
        fault("h012345g0n00N00", 12);
    }

    @Edge(promise = 10, says = "then TERMS (8 at most")
    static void faultNoneOfNoTermAndOfEight() {
        noFault("h012345g0");
        noFault("h012345g0n00");
        noFault("h012345g0n00n01n02n03n04n05n10n11");
        noFault("h012345g0n00n00n00n00n00n00n00n00");
        noFault(MOST);
        c.due("as much as a text can hold", MOST.length(), 60);
    }

    @Edge(promise = 10, says = "a ninth TERM")
    static void faultOfANinthTerm() {
        fault("h012345g0n00n01n02n03n04n05n10n11n12", 33);
        fault("h012345g0n00n01n02n03n04n05n10n11  n", 35);
        fault("h012345g0n00n01n02n03n04n05n10n11n99", 33);
    }

    @Edge(promise = 10, says = "n (110), two STEPS (0 .. 5, one figure each)")
    static void faultOfATermsStep() {
        noFault("h012345g0n55n00n05n50");
        fault("h012345g0n60", 10);
        fault("h012345g0n06", 11);
        fault("h012345g0n/0", 10);
        fault("h012345g0n0/", 11);
        fault("h012345g0n66", 10);
        fault("h012345g0n000", 12);
        fault("h012345g0n0n00", 11);
    }

    @Edge(promise = 10, says = "a GLASS behind a TERM")
    static void faultOfAGlassBehindATerm() {
        fault("h012345g0n00g0", 12);
        fault("h012345g0n00  l1 n11", 14);
        fault("h012345g0n00f", 12);
    }

    @Edge(promise = 10, says = "a TERM ahead of all GLASSES: its place")
    static void faultOfATermAheadOfAllGlasses() {
        fault("h012345n00g0", 7);
        fault("h012345  n00", 9);
        fault("h012345n", 7);
    }

    @Edge(promise = 10, says = "the TEXT's size, if its end comes too early")
    static void faultOfAnEarlyEnd() {
        String whole = "h012345g0n12";
        for (int size = 1; size < whole.length(); size++) {
            fault(whole.substring(0, size), size == 9 ? LimpMirror.NONE : size);
        }
        fault("  h0", 4);
        fault("h012345  ", 9);
        fault("h012345g0 l", 11);
        fault("h012345g0 n1", 12);
    }

    @Edge(promise = 10, says = "or there are blanks alone")
    static void faultOfBlanksAlone() {
        fault("", 0);
        fault(" ", 1);
        fault(" ".repeat(60), 60);
    }

    @Edge(promise = 10, says = "A FAULT is the first place at which it can't go on so")
    static void faultFirstOfTwo() {
        fault("x012345x0", 0);
        fault("h012945x0", 4);
        fault("h012345x0n99", 7);
        fault("h012345g9n99", 8);
        fault("h012345g0n99x", 10);
    }

    @Edge(promise = 10, says = "rows of 0 to 60 bytes")
    static void faultOfABytePastItsRange() {
        LimpMirror x = new LimpMirror();
        Checks.write(x, 0, "h012345g0");
        x.put(0, 8, 48 + 256);
        c.due("a figure cut to a byte", x.fault(0), LimpMirror.NONE);
        x.put(0, 8, 48 + 128);
        c.due("a figure by 128 too much", x.fault(0), 8);
        x.put(0, 8, -1);
        c.due("a byte below 0", x.fault(0), 8);
        x.put(0, 8, 51);
        x.put(0, 0, 104 - 256);
        c.due("a letter cut to a byte", x.fault(0), LimpMirror.NONE);
    }

    // ---- 11 room

    @Edge(promise = 11, says = "A ROOM by a TEXT (anew: no DEEDS; kept ROOMS go): how many GLASSES")
    static void roomAnew() {
        LimpMirror x = Checks.roomOf("h111111g0l1n00n11");
        for (int k = 0; k <= 2; k++) {
            x.step(0, 1);
            x.keep(k);
        }
        Checks.write(x, 3, "h543210t2");
        c.due("room(3)", x.room(3), 1);
        int[] want = {1, 0, 0, 0, 0, 1, 0, 2, 0};
        for (int what = 0; what <= 8; what++) {
            c.due("count(" + what + ")", x.count(what), want[what]);
        }
        for (int step = 0; step <= 5; step++) {
            c.due("habit(" + step + ")", x.habit(step), 5 - step);
        }
        for (int k = 0; k <= 2; k++) {
            int place = k;
            c.finds("on(" + k + ")", x, () -> x.on(place), Checks.NOTHING);
        }
        c.bad("deed(0, 0)", x, () -> x.deed(0, 0));
        c.bad("glass(1, 0)", x, () -> x.glass(1, 0));
        c.bad("term(0, 0)", x, () -> x.term(0, 0));
    }

    @Edge(promise = 11, says = "(anew: no DEEDS; kept ROOMS go)")
    static void roomBySameTextAgain() {
        LimpMirror x = Checks.roomOf("h012345g0");
        long digest = x.digest();
        x.step(0, 3);
        x.keep(1);
        c.due("room(0) again", x.room(0), 1);
        c.due("as at first", x.digest(), digest);
    }

    @Edge(promise = 11, says = "how many GLASSES")
    static void roomOfOneAndOfSix() {
        LimpMirror x = new LimpMirror();
        Checks.write(x, 0, "h012345g0");
        Checks.write(x, 3, MOST);
        c.due("of one", x.room(0), 1);
        c.due("of six", x.room(3), 6);
        c.due("terms", x.count(1), 8);
        c.due("term(7, 0)", x.term(7, 0), 4);
        c.due("term(7, 1)", x.term(7, 1), 4);
        c.asked("glass(5, 0)", x, x.glass(5, 0), 1, 0);
        c.asked("glass(0, 0)", x, x.glass(0, 0), 1, 5);
        c.asked("glass(0, 1)", x, x.glass(0, 1), 1, 3);
    }

    @Edge(promise = 11, says = "A ROOM by a TEXT")
    static void roomStaysWhenItsTextChanges() {
        LimpMirror x = Checks.roomOf("h012345g0l1");
        x.text(0, 3);
        c.due("glasses", x.count(0), 2);
        c.due("habit(5)", x.habit(5), 5);
    }

    @Edge(promise = 11, says = "BAD")
    static void roomOfNoText() {
        LimpMirror x = Checks.told(Checks.FAIR);
        for (int t : NO_TEXTS) {
            c.bad("room(" + t + ")", x, () -> x.room(t));
        }
    }

    @Edge(promise = 11, says = "NOTHING; STATE: a FAULT. (STATE behind NOTHING.)")
    static void roomOfAMissingText() {
        LimpMirror x = Checks.told(Checks.FAIR);
        c.finds("room(3)", x, () -> x.room(3), Checks.NOTHING);
    }

    @Edge(promise = 11, says = "STATE: a FAULT")
    static void roomOfAFaultChangesNothing() {
        LimpMirror x = Checks.told("h123450g1t2n12");
        x.step(0, 1);
        x.keep(1);
        x.step(0, 2);
        Checks.write(x, 1, "h000000l0n00n9");
        c.state("room(1)", x, () -> x.room(1));
        c.due("a kept room is as it was", x.on(1), 1);
        c.asked("its deed", x, x.deed(0, 0), 1, 1);
        x.text(1, 0);
        c.state("room of an empty text", x, () -> x.room(1));
    }

    // ---- 12 glass

    @Edge(promise = 12, says = "Of a GLASS: 0 the KIND, 1 the DELAY")
    static void glassOfEachKindAndDelay() {
        LimpMirror x = Checks.roomOf("h000000g3l0t1o2i3f0");
        int[] delays = {3, 0, 1, 2, 3, 0};
        for (int k = 0; k <= 5; k++) {
            c.asked("glass(" + k + ", 0)", x, x.glass(k, 0), 1, k);
            c.asked("glass(" + k + ", 1)", x, x.glass(k, 1), 1, delays[k]);
        }
    }

    @Edge(promise = 12, says = "2 how many DEEDS were done before it, 3 how many of these broke a TERM")
    static void glassOfNoDeedsAndOfForty() {
        LimpMirror x = Checks.roomOf("h000000g0t0n12");
        c.asked("no deeds", x, x.glass(0, 2), 1, 0);
        c.asked("none broke", x, x.glass(0, 3), 1, 0);
        for (int i = 0; i < 40; i++) {
            x.step(1, 1);
        }
        c.asked("forty deeds", x, x.glass(1, 2), 1, 40);
        c.asked("at even places", x, x.glass(1, 3), 1, 20);
        c.asked("not before the other one", x, x.glass(0, 2), 1, 0);
        c.asked("nor broken there", x, x.glass(0, 3), 1, 0);
        x.undo(1);
        c.asked("behind undo", x, x.glass(1, 2), 1, 1);
        c.asked("broken behind undo", x, x.glass(1, 3), 1, 1);
    }

    @Edge(promise = 12, says = "3 how many of these broke a TERM")
    static void glassOfADeedThatBrokeTwoTerms() {
        LimpMirror x = Checks.roomOf("h000000g0n12n12");
        x.step(0, 1);
        c.asked("glass(0, 3)", x, x.glass(0, 3), 1, 1);
    }

    @Edge(promise = 12, says = "BAD")
    static void glassOfNoNumber() {
        LimpMirror x = Checks.told("h000000g0l1n12");
        for (int k : new int[] {-1, 2, 6, MIN, MAX}) {
            c.bad("glass(" + k + ", 0)", x, () -> x.glass(k, 0));
        }
        for (int what : new int[] {-1, 4, MIN, MAX}) {
            c.bad("glass(0, " + what + ")", x, () -> x.glass(0, what));
        }
    }

    // ---- 13 mark

    @Edge(promise = 13, says = "a LATE one (LIMP, too) what it would SHOW next, whatever he does")
    static void markLateAtItsDelay() {
        LimpMirror x = Checks.roomOf("h000000l3l1g0");
        int[] steps = {1, 4, 2, 5};
        int[] byThree = {0, 0, 0, 2, 4};
        int[] byOne = {0, 2, 4, 1, 5};
        for (int deeds = 0; deeds <= 4; deeds++) {
            c.due("late by 3, behind " + deeds, x.mark(0, 1), byThree[deeds]);
            c.due("late by 1, behind " + deeds, x.mark(1, 1), byOne[deeds]);
            if (deeds < 4) {
                x.step(2, steps[deeds]);
            }
        }
    }

    @Edge(promise = 13, says = "what it would SHOW next, whatever he does")
    static void markLateBehindFortyDeeds() {
        LimpMirror x = Checks.roomOf("h000000l1i1g0");
        for (int i = 0; i < 40; i++) {
            x.step(2, i % 6);
        }
        c.due("mark(0, 1)", x.mark(0, 1), 3);
        c.due("mark(1, 1)", x.mark(1, 1), 3);
    }

    @Edge(promise = 13, says = "(NONE: its DELAY is 0)")
    static void markLateByNone() {
        LimpMirror x = Checks.told("h000000l0i0n12");
        for (int deeds = 0; deeds < 4; deeds++) {
            c.none("a late one, behind " + deeds, x, () -> x.mark(0, 1));
            c.none("a limp, behind " + deeds, x, () -> x.mark(1, 1));
            x.step(0, 3);
        }
    }

    @Edge(promise = 13, says = "a LATE one (LIMP, too)")
    static void markLateOfALimpWhereItLimps() {
        LimpMirror x = Checks.roomOf("h000000i1g0");
        Checks.steps(x, 1, 4, 5);
        c.due("where it limps", x.mark(0, 1), 0);
        x.step(1, 3);
        c.due("behind that", x.mark(0, 1), 3);
    }

    @Edge(promise = 13, says = "a THIN one (FRIEND, too) at how many DEEDS' places (all) it SHOWS, or would have shown, 0")
    static void markThinOfAllDeeds() {
        LimpMirror x = Checks.roomOf("h300000t3f3g0");
        c.due("no deeds, thin", x.mark(0, 2), 0);
        c.due("no deeds, friend", x.mark(1, 2), 0);
        Checks.steps(x, 2, 0, 0, 1, 1);
        c.due("0, 1, 3", x.mark(0, 2), 3);
        c.due("0, 3", x.mark(1, 2), 2);
        Checks.steps(x, 0, 0, 5);
        c.due("0, 1, 3, 4, 5", x.mark(0, 2), 5);
        c.due("0, 3, 4, 5", x.mark(1, 2), 4);
        for (int i = 6; i < 40; i++) {
            x.step(2, 4);
        }
        c.due("of forty", x.mark(0, 2), 22);
        c.due("of forty, friend", x.mark(1, 2), 21);
    }

    @Edge(promise = 13, says = "a THOUGHT one how many STEPS there are of which it SHOWS 0")
    static void markThoughtOfNoneAndAll() {
        c.due("none", Checks.roomOf("h123451o0").mark(0, 3), 0);
        c.due("one", Checks.roomOf("h123450o3").mark(0, 3), 1);
        c.due("all", Checks.roomOf("h000000o0").mark(0, 3), 6);
    }

    @Edge(promise = 13, says = "a LIMP one in how many places from the next one on it limps (0: at the next one)")
    static void markLimpRoundAndRound() {
        LimpMirror x = Checks.roomOf("h000000i0i3g0");
        for (int deeds = 0; deeds <= 40; deeds++) {
            c.due("behind " + deeds, x.mark(deeds % 2, 4), new int[] {2, 1, 0}[deeds % 3]);
            x.step(2, 1);
        }
    }

    @Edge(promise = 13, says = "a FRIEND one what it would SHOW next, if he kept still")
    static void markFriendAtEvenAndOdd() {
        LimpMirror x = Checks.roomOf("h200000f0f3");
        for (int deeds = 0; deeds <= 40; deeds++) {
            c.due("behind " + deeds, x.mark(deeds / 2 % 2, 5), deeds % 2);
            x.step(0, 5);
        }
    }

    @Edge(promise = 13, says = "BAD: also KIND 0")
    static void markOfKind0() {
        LimpMirror x = Checks.told("h000000g0l1n12");
        c.bad("mark(0, 0)", x, () -> x.mark(0, 0));
        c.bad("mark(1, 0)", x, () -> x.mark(1, 0));
    }

    @Edge(promise = 13, says = "BAD")
    static void markOfNoKindAndNoGlass() {
        LimpMirror x = Checks.told("h000000g0l1n12");
        for (int kind : new int[] {-1, 6, MIN, MAX}) {
            c.bad("mark(0, " + kind + ")", x, () -> x.mark(0, kind));
        }
        for (int k : new int[] {-1, 2, MIN, MAX}) {
            c.bad("mark(" + k + ", 1)", x, () -> x.mark(k, 1));
        }
    }

    @Edge(promise = 13, says = "UNLIKE")
    static void markOfAnotherKind() {
        // of each kind those that it IS: itself, and what it is a sort of
        int[] is = {0, 1 << 1, 1 << 2, 1 << 3, 1 << 1 | 1 << 4, 1 << 2 | 1 << 5};
        for (int k = 0; k <= 5; k++) {
            LimpMirror x = Checks.told("h000000g0l1t0o0i1f0n12");
            for (int kind = 1; kind <= 5; kind++) {
                int glass = k;
                int other = kind;
                if ((is[k] >> kind & 1) == 1) {
                    c.due("mark(" + k + ", " + kind + ") tells", x.mark(k, kind) >= 0 ? 1 : 0, 1);
                } else {
                    c.finds("mark(" + k + ", " + kind + ")", x, () -> x.mark(glass, other), Checks.UNLIKE);
                }
            }
        }
    }

    // ---- 14 habit

    @Edge(promise = 14, says = "What he thinks of at a STEP")
    static void habitOfFirstAndLast() {
        LimpMirror x = Checks.roomOf("h512340g0");
        c.due("habit(0)", x.habit(0), 5);
        c.due("habit(5)", x.habit(5), 0);
    }

    @Edge(promise = 14, says = "BAD")
    static void habitOfNoStep() {
        LimpMirror x = Checks.told(Checks.FAIR);
        for (int step : new int[] {-1, 6, MIN, MAX}) {
            c.bad("habit(" + step + ")", x, () -> x.habit(step));
        }
    }

    // ---- 15 term

    @Edge(promise = 15, says = "A TERM: 0 his STEP, 1 what is SHOWN")
    static void termFirstAndLast() {
        LimpMirror x = Checks.roomOf(MOST);
        c.due("term(0, 0)", x.term(0, 0), 5);
        c.due("term(0, 1)", x.term(0, 1), 5);
        c.due("term(5, 0)", x.term(5, 0), 5);
        c.due("term(5, 1)", x.term(5, 1), 0);
        c.due("term(7, 0)", x.term(7, 0), 4);
    }

    @Edge(promise = 15, says = "BAD")
    static void termOfNoNumber() {
        LimpMirror x = Checks.told("h000000g0n12n34");
        for (int n : new int[] {-1, 2, 8, MIN, MAX}) {
            c.bad("term(" + n + ", 0)", x, () -> x.term(n, 0));
        }
        for (int which : new int[] {-1, 2, MIN, MAX}) {
            c.bad("term(0, " + which + ")", x, () -> x.term(0, which));
        }
        LimpMirror y = Checks.told("h000000g0");
        c.bad("of none", y, () -> y.term(0, 0));
    }
}
