/** The boundary cases of promises 22 to 28: what is shown, and what was done. */
public final class ShownEdgesTest {
    private static final Checks c = new Checks();
    private static final int MIN = Integer.MIN_VALUE, MAX = Integer.MAX_VALUE;
    private static final String EACH_KIND = "h001100g0l2t0o0i1f0";

    private static final RowCalls.OfRow SHOW = (x, k, r) -> x.show(k, r, 3);
    private static final RowCalls.OfRow BREAKS = (x, k, r) -> x.breaks(k, r);
    private static final RowCalls.OfRow ALIKE = (x, k, r) -> x.alike(k, r);
    private static final RowCalls.OfTwo FIT = (x, r, q) -> x.fit(r, q);
    private static final RowCalls.OfRow WAYS = (x, k, r) -> x.ways(k, r);
    private static final RowCalls.OfRow FIRST = (x, k, r) -> x.first(k, r, 3);
    private static final RowCalls.OfRow CAN = (x, k, r) -> x.can(k, r, 0);

    public static void main(String[] args) throws Exception {
        Edges.run(c, ShownEdgesTest.class, 22, 28);
    }

    private static void shows(LimpMirror x, int k, String doings, String want) {
        Checks.fill(x, 0, doings);
        c.due("show(" + k + ", ..) of " + doings, x.show(k, 0, 1), doings.length());
        c.due("what " + k + " shows of " + doings, Checks.rowOf(x, 1), want);
    }

    // ---- 22 show

    @Edge(promise = 22, says = "how many places")
    static void showOfNone() {
        LimpMirror x = Checks.roomOf(Checks.FAIR);
        for (int k = 0; k <= 5; k++) {
            x.row(1, 7);
            shows(x, k, "", "");
        }
    }

    @Edge(promise = 22, says = "DOINGS told in a ROW are 12 STEPS at most")
    static void showOfTwelve() {
        LimpMirror x = Checks.roomOf("h543210g3l3t3o3i3f3");
        shows(x, 0, "012345012345", "0 2 1 3 4 5 0 2 1 3 4 5");
        shows(x, 1, "012345012345", "0 0 0 0 2 1 3 4 5 0 2 1");
        shows(x, 2, "012345012345", "0 0 1 0 4 0 0 0 1 0 4 0");
        shows(x, 3, "012345012345", "5 4 3 1 2 0 5 4 3 1 2 0");
        shows(x, 4, "012345012345", "0 0 0 0 2 0 3 4 0 0 2 0");
        shows(x, 5, "012345012345", "0 4 1 1 4 0 0 4 1 1 4 0");
    }

    @Edge(promise = 22, says = "that of the place as much ahead as its DELAY (0, if there is none)")
    static void showOfFewerThanTheDelay() {
        LimpMirror x = Checks.roomOf("h000000l0l1l2l3");
        shows(x, 0, "345", "3 4 5");
        shows(x, 1, "345", "0 3 4");
        shows(x, 2, "345", "0 0 3");
        shows(x, 3, "345", "0 0 0");
        shows(x, 3, "3451", "0 0 0 3");
        shows(x, 3, "4", "0");
    }

    @Edge(promise = 22, says = "comes to a ROW (anew)")
    static void showToAMissingAShorterAndALongerRow() {
        LimpMirror x = Checks.roomOf("h000000g0");
        Checks.fill(x, 0, "123");
        c.due("to a missing row", x.show(0, 0, 5), 3);
        c.due("row 5", Checks.rowOf(x, 5), "2 1 3");
        x.row(2, 1);
        c.due("to a shorter row", x.show(0, 0, 2), 3);
        c.due("row 2", Checks.rowOf(x, 2), "2 1 3");
        x.row(2, 40);
        c.due("to a longer row", x.show(0, 0, 2), 3);
        c.due("row 2, of forty before", Checks.rowOf(x, 2), "2 1 3");
        c.due("the doings stay", Checks.rowOf(x, 0), "1 2 3");
    }

    @Edge(promise = 22, says = "comes to a ROW (anew)")
    static void showToItself() {
        LimpMirror x = Checks.roomOf("h000000l1");
        Checks.fill(x, 0, "123");
        c.due("show(0, 0, 0)", x.show(0, 0, 0), 3);
        c.due("row 0", Checks.rowOf(x, 0), "0 2 1");
    }

    @Edge(promise = 22, says = "aside; DOINGS in a ROW")
    static void showAside() {
        LimpMirror x = Checks.roomOf("h000000l1");
        x.step(0, 5);
        shows(x, 0, "34", "0 3");
        c.due("deeds", x.count(2), 1);
        for (int i = 1; i < 40; i++) {
            x.step(0, 5);
        }
        shows(x, 0, "34", "0 3");
        c.due("forty deeds", x.count(2), 40);
    }

    @Edge(promise = 22, says = "BAD")
    static void showBeforeNoGlass() {
        RowCalls.noGlass(c, SHOW);
    }

    @Edge(promise = 22, says = "BAD")
    static void showOfNoRow() {
        RowCalls.noRow(c, SHOW);
    }

    @Edge(promise = 22, says = "BAD")
    static void showToNoRow() {
        LimpMirror x = Checks.told(Checks.FAIR);
        Checks.fill(x, 0, "12");
        for (int to : new int[] {-1, 6, MIN, MAX}) {
            c.bad("to " + to, x, () -> x.show(0, 0, to));
            c.bad("to " + to + " of a missing row", x, () -> x.show(0, 1, to));
        }
    }

    @Edge(promise = 22, says = "behind BAD, in this order")
    static void showBadAhead() {
        RowCalls.badAhead(c, SHOW);
    }

    @Edge(promise = 22, says = "NOTHING")
    static void showOfAMissingRow() {
        RowCalls.missing(c, SHOW);
    }

    @Edge(promise = 22, says = "SIZE: more than 12")
    static void showOfThirteen() {
        RowCalls.tooMany(c, SHOW, 12);
    }

    @Edge(promise = 22, says = "UNLIKE: no STEP")
    static void showOfNoStep() {
        RowCalls.noStep(c, SHOW, 12);
    }

    @Edge(promise = 22, says = "NOTHING; SIZE; UNLIKE")
    static void showSizeAhead() {
        RowCalls.sizeAhead(c, SHOW, 12);
    }

    // ---- 23 breaks

    @Edge(promise = 23, says = "NONE: none (asked() 0)")
    static void breaksNone() {
        LimpMirror x = Checks.told("h000000g0l1n12");
        x.row(0, 0);
        c.asked("of none", x, x.breaks(0, 0), LimpMirror.NONE, 0);
        Checks.fill(x, 0, 2, 2);
        x.lay(0, 0, 2);
        c.asked("of two", x, x.breaks(0, 0), LimpMirror.NONE, 0);
        LimpMirror y = Checks.roomOf("h000000g0");
        Checks.fill(y, 0, 5);
        y.at(0, 0);
        c.asked("without terms", y, y.breaks(0, 0), LimpMirror.NONE, 0);
        LimpMirror z = Checks.told("h000000g0n00");
        z.row(0, 0);
        c.asked("of none, though still breaks one", z, z.breaks(0, 0), LimpMirror.NONE, 0);
        Checks.fill(z, 0, "333333333333");
        c.asked("nor behind the last of twelve", z, z.breaks(0, 0), LimpMirror.NONE, 0);
    }

    @Edge(promise = 23, says = "The first place of DOINGS at which a TERM is BROKEN before a GLASS; how many places by asked()")
    static void breaksAtFirstAndLastPlace() {
        LimpMirror x = Checks.roomOf("h000000g0n12");
        Checks.fill(x, 0, "100000000000");
        c.asked("the first place", x, x.breaks(0, 0), 0, 1);
        Checks.fill(x, 0, "000000000001");
        c.asked("the last place", x, x.breaks(0, 0), 11, 1);
        Checks.fill(x, 0, "111111111111");
        c.asked("all places", x, x.breaks(0, 0), 0, 12);
        Checks.fill(x, 0, "010020300001");
        c.asked("two places", x, x.breaks(0, 0), 1, 2);
    }

    @Edge(promise = 23, says = "how many places by asked()")
    static void breaksTwoTermsAtOnePlace() {
        LimpMirror x = Checks.roomOf("h000000g0n12n12");
        Checks.fill(x, 0, "1");
        c.asked("two terms, one place", x, x.breaks(0, 0), 0, 1);
    }

    @Edge(promise = 23, says = "BAD")
    static void breaksBeforeNoGlass() {
        RowCalls.noGlass(c, BREAKS);
    }

    @Edge(promise = 23, says = "BAD")
    static void breaksOfNoRow() {
        RowCalls.noRow(c, BREAKS);
    }

    @Edge(promise = 23, says = "behind BAD, in this order")
    static void breaksBadAhead() {
        RowCalls.badAhead(c, BREAKS);
    }

    @Edge(promise = 23, says = "NOTHING")
    static void breaksOfAMissingRow() {
        RowCalls.missing(c, BREAKS);
    }

    @Edge(promise = 23, says = "SIZE: more than 12")
    static void breaksOfThirteen() {
        RowCalls.tooMany(c, BREAKS, 12);
    }

    @Edge(promise = 23, says = "UNLIKE: no STEP")
    static void breaksOfNoStep() {
        RowCalls.noStep(c, BREAKS, 12);
    }

    @Edge(promise = 23, says = "NOTHING; SIZE; UNLIKE")
    static void breaksSizeAhead() {
        RowCalls.sizeAhead(c, BREAKS, 12);
    }

    // ---- 24 alike

    @Edge(promise = 24, says = "at which a GLASS SHOWS just what he does")
    static void alikeNoneAndAll() {
        LimpMirror x = Checks.roomOf("h000000g0t0");
        x.row(0, 0);
        c.due("of none", x.alike(0, 0), 0);
        Checks.fill(x, 0, "121212121212");
        c.due("none", x.alike(0, 0), 0);
        Checks.fill(x, 0, "034503450345");
        c.due("all", x.alike(0, 0), 12);
        c.due("thin", x.alike(1, 0), 6);
        Checks.fill(x, 0, "100000000002");
        c.due("but the first and the last", x.alike(0, 0), 10);
    }

    @Edge(promise = 24, says = "BAD")
    static void alikeBeforeNoGlass() {
        RowCalls.noGlass(c, ALIKE);
    }

    @Edge(promise = 24, says = "BAD")
    static void alikeOfNoRow() {
        RowCalls.noRow(c, ALIKE);
    }

    @Edge(promise = 24, says = "behind BAD, in this order")
    static void alikeBadAhead() {
        RowCalls.badAhead(c, ALIKE);
    }

    @Edge(promise = 24, says = "NOTHING")
    static void alikeOfAMissingRow() {
        RowCalls.missing(c, ALIKE);
    }

    @Edge(promise = 24, says = "SIZE: more than 12")
    static void alikeOfThirteen() {
        RowCalls.tooMany(c, ALIKE, 12);
    }

    @Edge(promise = 24, says = "UNLIKE: no STEP")
    static void alikeOfNoStep() {
        RowCalls.noStep(c, ALIKE, 12);
    }

    @Edge(promise = 24, says = "NOTHING; SIZE; UNLIKE")
    static void alikeSizeAhead() {
        RowCalls.sizeAhead(c, ALIKE, 12);
    }

    // ---- 25 fit

    @Edge(promise = 25, says = "the first by asked() (NONE)")
    static void fitUnlikeNowhere() {
        LimpMirror x = Checks.fresh();
        x.row(0, 0);
        x.row(1, 0);
        c.asked("of none", x, x.fit(0, 1), 0, LimpMirror.NONE);
        Checks.fill(x, 0, "012345012345");
        x.row(1, 12);
        x.copy(0, 0, 1, 0, 12);
        c.asked("of twelve", x, x.fit(0, 1), 0, LimpMirror.NONE);
        c.asked("a row and itself", x, x.fit(0, 0), 0, LimpMirror.NONE);
    }

    @Edge(promise = 25, says = "At how many places two rows of STEPS of like sizes are unlike")
    static void fitUnlikeAtFirstAndLastPlace() {
        LimpMirror x = new LimpMirror();
        Checks.fill(x, 0, "000000000000");
        Checks.fill(x, 1, "100000000000");
        c.asked("the first place", x, x.fit(0, 1), 1, 0);
        Checks.fill(x, 1, "000000000005");
        c.asked("the last place", x, x.fit(0, 1), 1, 11);
        Checks.fill(x, 1, "111111111111");
        c.asked("all places", x, x.fit(0, 1), 12, 0);
    }

    @Edge(promise = 25, says = "BAD")
    static void fitOfNoRow() {
        RowCalls.noPair(c, FIT);
    }

    @Edge(promise = 25, says = "NOTHING")
    static void fitOfAMissingRow() {
        RowCalls.missingOfPair(c, FIT);
    }

    @Edge(promise = 25, says = "SIZE: more than 12")
    static void fitOfThirteen() {
        RowCalls.tooManyOfPair(c, FIT, 12);
    }

    @Edge(promise = 25, says = "UNLIKE: no STEP")
    static void fitOfNoStep() {
        RowCalls.noStepOfPair(c, FIT);
    }

    @Edge(promise = 25, says = "(all of the first one ahead)")
    static void fitFirstAhead() {
        RowCalls.firstAhead(c, FIT, 12);
    }

    @Edge(promise = 25, says = "then SIZE: not as many")
    static void fitNotAsMany() {
        RowCalls.notAsMany(c, FIT);
    }

    @Edge(promise = 25, says = "UNLIKE (all of the first one ahead); then SIZE: not as many")
    static void fitUnlikeAheadOfNotAsMany() {
        RowCalls.unlikeAheadOfNotAsMany(c, FIT);
    }

    // ---- 26 ways

    @Edge(promise = 26, says = "told by upper() (lower() is 1): 1")
    static void waysOfNone() {
        LimpMirror x = Checks.told(Checks.FAIR);
        x.row(0, 0);
        for (int k = 0; k <= 5; k++) {
            c.told("before " + k, x, x.ways(k, 0), 1, 1);
        }
    }

    @Edge(promise = 26, says = "a ROW of 0 to 6 STEPS that were SHOWN")
    static void waysOfSix() {
        LimpMirror x = Checks.told("h000000o0g0l3n12");
        Checks.fill(x, 0, "000000");
        c.told("as many as can be", x, x.ways(0, 0), 46656, 1);
        c.told("one alone", x, x.ways(1, 0), 1, 1);
        Checks.fill(x, 0, "000345");
        c.told("the last three are free", x, x.ways(2, 0), 216, 1);
    }

    @Edge(promise = 26, says = "(0 by 1)")
    static void waysNone() {
        LimpMirror x = Checks.told("h000000l1t0i0o0g0n12");
        Checks.fill(x, 0, "1");
        c.told("late, at once", x, x.ways(0, 0), 0, 1);
        Checks.fill(x, 0, "01");
        c.told("thin, at an odd place", x, x.ways(1, 0), 0, 1);
        Checks.fill(x, 0, "001");
        c.told("a limp where it limps", x, x.ways(2, 0), 0, 1);
        Checks.fill(x, 0, "000001");
        c.told("what he never thinks of, at the last place", x, x.ways(3, 0), 0, 1);
    }

    @Edge(promise = 26, says = "(0, if there is none)")
    static void waysOfFewerThanTheDelay() {
        LimpMirror x = Checks.told("h000000l3i3n12");
        Checks.fill(x, 0, "00");
        c.told("late", x, x.ways(0, 0), 36, 1);
        c.told("limp", x, x.ways(1, 0), 36, 1);
        Checks.fill(x, 0, "0005");
        c.told("late, just as many and one", x, x.ways(0, 0), 216, 1);
    }

    @Edge(promise = 26, says = "BAD")
    static void waysBeforeNoGlass() {
        RowCalls.noGlass(c, WAYS);
    }

    @Edge(promise = 26, says = "BAD")
    static void waysOfNoRow() {
        RowCalls.noRow(c, WAYS);
    }

    @Edge(promise = 26, says = "NOTHING; SIZE; UNLIKE; behind BAD")
    static void waysBadAhead() {
        RowCalls.badAhead(c, WAYS);
    }

    @Edge(promise = 26, says = "NOTHING")
    static void waysOfAMissingRow() {
        RowCalls.missing(c, WAYS);
    }

    @Edge(promise = 26, says = "SIZE: more than 6")
    static void waysOfSeven() {
        RowCalls.tooMany(c, WAYS, 6);
    }

    @Edge(promise = 26, says = "UNLIKE")
    static void waysOfNoStep() {
        RowCalls.noStep(c, WAYS, 6);
    }

    @Edge(promise = 26, says = "SIZE: more than 6; UNLIKE")
    static void waysSizeAhead() {
        RowCalls.sizeAhead(c, WAYS, 6);
    }

    // ---- 27 first

    @Edge(promise = 27, says = "how many places")
    static void firstOfNone() {
        LimpMirror x = Checks.roomOf(EACH_KIND);
        x.row(0, 0);
        Checks.fill(x, 1, "12");
        c.due("first(1, 0, 1)", x.first(1, 0, 1), 0);
        c.due("row 1", Checks.rowOf(x, 1), "");
    }

    @Edge(promise = 27, says = "The first such DOINGS")
    static void firstOfSix() {
        LimpMirror x = Checks.roomOf(EACH_KIND);
        Checks.fill(x, 0, "002020");
        c.due("before a thought", x.first(3, 0, 1), 6);
        c.due("the least of each", Checks.rowOf(x, 1), "0 0 2 0 2 0");
        Checks.fill(x, 0, "005431");
        c.due("before a late one", x.first(1, 0, 1), 6);
        c.due("0 where it is free", Checks.rowOf(x, 1), "5 4 3 2 0 0");
        Checks.fill(x, 0, "555555");
        c.due("before a glass", x.first(0, 0, 1), 6);
        c.due("the greatest step", Checks.rowOf(x, 1), "5 5 5 5 5 5");
    }

    @Edge(promise = 27, says = "such rows go by their first STEPS, then second ones")
    static void firstByFirstSteps() {
        LimpMirror x = Checks.roomOf("h111111f0");
        Checks.fill(x, 0, "3242");
        c.due("before a friend", x.first(0, 0, 1), 4);
        c.due("the least", Checks.rowOf(x, 1), "3 0 4 0");
    }

    @Edge(promise = 27, says = "NONE: there are none")
    static void firstNone() {
        LimpMirror x = Checks.told("h000000l1o0n12");
        Checks.fill(x, 0, "12");
        Checks.fill(x, 1, "345");
        c.none("to a row", x, () -> x.first(0, 0, 1));
        c.none("to a missing row", x, () -> x.first(0, 0, 4));
        c.none("to itself", x, () -> x.first(0, 0, 0));
        c.none("before a thought", x, () -> x.first(1, 0, 1));
    }

    @Edge(promise = 27, says = "come to a ROW (anew)")
    static void firstToAMissingALongerRowAndItself() {
        LimpMirror x = Checks.roomOf("h000000g0");
        Checks.fill(x, 0, "123");
        c.due("to a missing row", x.first(0, 0, 5), 3);
        c.due("row 5", Checks.rowOf(x, 5), "2 1 3");
        x.row(2, 40);
        c.due("to a longer row", x.first(0, 0, 2), 3);
        c.due("row 2", Checks.rowOf(x, 2), "2 1 3");
        c.due("what was shown stays", Checks.rowOf(x, 0), "1 2 3");
        c.due("to itself", x.first(0, 0, 0), 3);
        c.due("row 0", Checks.rowOf(x, 0), "2 1 3");
    }

    @Edge(promise = 27, says = "BAD")
    static void firstBeforeNoGlass() {
        RowCalls.noGlass(c, FIRST);
    }

    @Edge(promise = 27, says = "BAD")
    static void firstOfNoRow() {
        RowCalls.noRow(c, FIRST);
    }

    @Edge(promise = 27, says = "BAD")
    static void firstToNoRow() {
        LimpMirror x = Checks.told(Checks.FAIR);
        Checks.fill(x, 0, "12");
        for (int to : new int[] {-1, 6, MIN, MAX}) {
            c.bad("to " + to, x, () -> x.first(0, 0, to));
            c.bad("to " + to + " of a missing row", x, () -> x.first(0, 1, to));
        }
    }

    @Edge(promise = 27, says = "NOTHING; SIZE; UNLIKE; behind BAD")
    static void firstBadAhead() {
        RowCalls.badAhead(c, FIRST);
    }

    @Edge(promise = 27, says = "NOTHING")
    static void firstOfAMissingRow() {
        RowCalls.missing(c, FIRST);
    }

    @Edge(promise = 27, says = "SIZE")
    static void firstOfSeven() {
        RowCalls.tooMany(c, FIRST, 6);
    }

    @Edge(promise = 27, says = "UNLIKE")
    static void firstOfNoStep() {
        RowCalls.noStep(c, FIRST, 6);
    }

    @Edge(promise = 27, says = "NOTHING; SIZE; UNLIKE")
    static void firstSizeAhead() {
        RowCalls.sizeAhead(c, FIRST, 6);
    }

    // ---- 28 can

    @Edge(promise = 28, says = "STEPS (bits) that he can have done at a place of such DOINGS")
    static void canAtFirstAndLastPlace() {
        LimpMirror x = Checks.roomOf("h000000l3o0g0");
        Checks.fill(x, 0, "000345");
        c.due("late, place 0", x.can(0, 0, 0), 8);
        c.due("late, place 2", x.can(0, 0, 2), 32);
        c.due("late, free from place 3 on", x.can(0, 0, 3), 63);
        c.due("late, place 5", x.can(0, 0, 5), 63);
        Checks.fill(x, 0, "0");
        c.due("all think of it", x.can(1, 0, 0), 63);
        c.due("0 alone", x.can(2, 0, 0), 1);
    }

    @Edge(promise = 28, says = "STEPS (bits) that he can have done")
    static void canNone() {
        LimpMirror x = Checks.told("h000000l1o0n12");
        Checks.fill(x, 0, "10");
        c.due("late, place 0", x.can(0, 0, 0), 0);
        c.due("late, place 1", x.can(0, 0, 1), 0);
        c.due("a thought, where it could be", x.can(1, 0, 1), 0);
    }

    @Edge(promise = 28, says = "BAD: also no place of that ROW (behind UNLIKE; below 0 ahead)")
    static void canOfNoPlace() {
        LimpMirror x = Checks.told(Checks.FAIR);
        Checks.fill(x, 0, "12");
        Checks.fill(x, 1, "111111");
        c.bad("behind the last one", x, () -> x.can(0, 0, 2));
        c.bad("behind the last of six", x, () -> x.can(0, 1, 6));
        c.bad("MAX", x, () -> x.can(0, 0, MAX));
        x.row(2, 0);
        c.bad("of none", x, () -> x.can(0, 2, 0));
        c.bad("where there are no ways", x, () -> x.can(1, 0, 2));
    }

    @Edge(promise = 28, says = "(behind UNLIKE; below 0 ahead)")
    static void canOfNoPlaceBehindUnlike() {
        LimpMirror x = Checks.told(Checks.FAIR);
        Checks.fill(x, 0, 1, 9);
        x.row(1, 7);
        c.finds("missing", x, () -> x.can(0, 5, 9), Checks.NOTHING);
        c.finds("too many", x, () -> x.can(0, 1, 9), Checks.SIZE);
        c.finds("no step", x, () -> x.can(0, 0, 9), Checks.UNLIKE);
    }

    @Edge(promise = 28, says = "below 0 ahead")
    static void canOfAPlaceBelow0() {
        LimpMirror x = Checks.told(Checks.FAIR);
        Checks.fill(x, 0, 1, 9);
        x.row(1, 7);
        Checks.fill(x, 2, "12");
        for (int place : new int[] {-1, MIN}) {
            c.bad("of a good row", x, () -> x.can(0, 2, place));
            c.bad("ahead of missing", x, () -> x.can(0, 5, place));
            c.bad("ahead of too many", x, () -> x.can(0, 1, place));
            c.bad("ahead of no step", x, () -> x.can(0, 0, place));
        }
    }

    @Edge(promise = 28, says = "BAD")
    static void canBeforeNoGlass() {
        RowCalls.noGlass(c, CAN);
    }

    @Edge(promise = 28, says = "BAD")
    static void canOfNoRow() {
        RowCalls.noRow(c, CAN);
    }

    @Edge(promise = 28, says = "NOTHING; SIZE; UNLIKE; behind BAD")
    static void canBadAhead() {
        RowCalls.badAhead(c, CAN);
    }

    @Edge(promise = 28, says = "NOTHING")
    static void canOfAMissingRow() {
        RowCalls.missing(c, CAN);
    }

    @Edge(promise = 28, says = "SIZE")
    static void canOfSeven() {
        RowCalls.tooMany(c, CAN, 6);
    }

    @Edge(promise = 28, says = "UNLIKE")
    static void canOfNoStep() {
        RowCalls.noStep(c, CAN, 6);
    }

    @Edge(promise = 28, says = "NOTHING; SIZE; UNLIKE")
    static void canSizeAhead() {
        RowCalls.sizeAhead(c, CAN, 6);
    }
}
