/** The boundary cases of promises 29 to 31: laws of a glass, what to do next, which row is he. */
public final class LawsEdgesTest {
    private static final Checks c = new Checks();
    private static final int ALL = (1 << 24) - 1;

    private static final RowCalls.OfTwo LAWS = (x, r, q) -> x.laws(r, q);
    private static final RowCalls.OfTwo NEXT = (x, r, q) -> x.next(r, q);
    private static final RowCalls.OfTwo HE = (x, r, q) -> x.he(0, r, q);

    public static void main(String[] args) throws Exception {
        Edges.run(c, LawsEdgesTest.class, 29, 31);
    }

    private static LimpMirror shown(String room, String doings, String shown) {
        LimpMirror x = Checks.told(room);
        Checks.fill(x, 0, doings);
        Checks.fill(x, 1, shown);
        x.row(5, 1);
        x.lay(5, 0, 77);
        x.at(5, 0);
        return x;
    }

    private static int bits(int... laws) {
        int all = 0;
        for (int law : laws) {
            all |= 1 << law;
        }
        return all;
    }

    // ---- 29 laws

    @Edge(promise = 29, says = "LAWS (bits 0 .. 23) by which just that was SHOWN")
    static void lawsOfNone() {
        c.due("all", shown("h301254g0n12", "", "").laws(0, 1), ALL);
        LimpMirror x = new LimpMirror();
        x.row(3, 0);
        c.due("without a room, of a row and itself", x.laws(3, 3), ALL);
    }

    @Edge(promise = 29, says = "LAWS are told by 4 times a KIND and a DELAY (0 .. 23)")
    static void lawsFirstAndLast() {
        String room = "h301254g0n12";
        c.due("glass, late by 0", shown(room, "1234", "2134").laws(0, 1), bits(0, 1, 2, 3, 4));
        c.due("late by 1", shown(room, "1234", "0213").laws(0, 1), bits(5));
        c.due("late by 3, limp by 3", shown(room, "1234", "0002").laws(0, 1), bits(7, 19));
        c.due("thin", shown(room, "1234", "2030").laws(0, 1), bits(8, 9, 10, 11));
        c.due("thought", shown(room, "1234", "0215").laws(0, 1), bits(12, 13, 14, 15));
        c.due("limp by 0", shown(room, "1234", "2104").laws(0, 1), bits(16));
        c.due("limp by 1", shown(room, "1234", "0203").laws(0, 1), bits(17));
        c.due("limp by 2", shown(room, "1234", "0001").laws(0, 1), bits(18));
        c.due("friend", shown(room, "1234", "2235").laws(0, 1), bits(20, 21, 22, 23));
    }

    @Edge(promise = 29, says = "by which just that was SHOWN")
    static void lawsNone() {
        c.due("none", shown("h301254g0n12", "1234", "5555").laws(0, 1), 0);
        c.due("none by the last place", shown("h301254g0n12", "333333333333", "333333333334").laws(0, 1), 0);
    }

    @Edge(promise = 29, says = "DOINGS told in a ROW are 12 STEPS at most")
    static void lawsOfTwelve() {
        c.due("all", shown("h012345g0n12", "000000000000", "000000000000").laws(0, 1), ALL);
        c.due("but thoughts and friends", shown("h300000g0n12", "000000000000", "000000000000").laws(0, 1),
                ALL & ~bits(12, 13, 14, 15, 20, 21, 22, 23));
        c.due("told by the last place", shown("h012345g0n12", "000000000003", "000000000003").laws(0, 1),
                bits(0, 1, 2, 3, 4, 12, 13, 14, 15, 20, 21, 22, 23));
    }

    @Edge(promise = 29, says = "a THOUGHT one what he thinks of at that STEP")
    static void lawsWithoutARoom() {
        LimpMirror x = new LimpMirror();
        Checks.fill(x, 0, "3");
        Checks.fill(x, 1, "0");
        c.due("he thinks of 0", x.laws(0, 1), bits(5, 6, 7, 12, 13, 14, 15, 17, 18, 19));
    }

    @Edge(promise = 29, says = "BAD")
    static void lawsOfNoRow() {
        RowCalls.noPair(c, LAWS);
    }

    @Edge(promise = 29, says = "NOTHING")
    static void lawsOfAMissingRow() {
        RowCalls.missingOfPair(c, LAWS);
    }

    @Edge(promise = 29, says = "SIZE: more than 12")
    static void lawsOfThirteen() {
        RowCalls.tooManyOfPair(c, LAWS, 12);
    }

    @Edge(promise = 29, says = "UNLIKE")
    static void lawsOfNoStep() {
        RowCalls.noStepOfPair(c, LAWS);
    }

    @Edge(promise = 29, says = "each NOTHING; SIZE: more than 12; UNLIKE")
    static void lawsFirstAhead() {
        RowCalls.firstAhead(c, LAWS, 12);
    }

    @Edge(promise = 29, says = "then SIZE: not as many")
    static void lawsNotAsMany() {
        RowCalls.notAsMany(c, LAWS);
    }

    @Edge(promise = 29, says = "UNLIKE; then SIZE: not as many")
    static void lawsUnlikeAheadOfNotAsMany() {
        RowCalls.unlikeAheadOfNotAsMany(c, LAWS);
    }

    // ---- 30 next

    @Edge(promise = 30, says = "NONE: fewer than two LAWS are left")
    static void nextOfOneAndOfNoLaw() {
        LimpMirror x = shown("h301254g0n12", "1234", "0213");
        c.none("one law", x, () -> x.next(0, 1));
        c.due("asked() as it was", x.asked(), 77);
        LimpMirror y = shown("h301254g0n12", "1234", "5555");
        c.none("no law", y, () -> y.next(0, 1));
    }

    @Edge(promise = 30, says = "fewer than two LAWS are left")
    static void nextOfTwoLaws() {
        LimpMirror x = shown("h301254g0n12", "1234", "0002");
        c.asked("late by 3, limp by 3, not told", x, x.next(0, 1), 0, 2);
        LimpMirror y = shown("h301254g0n12", "12345", "00021");
        c.asked("told, whatever he does", y, y.next(0, 1), 0, 1);
        LimpMirror z = shown("h301254g0n12", "113", "000");
        c.asked("late by 3, limp by 2, by 3, of what was done", z, z.next(0, 1), 0, 3);
    }

    @Edge(promise = 30, says = "the most that SHOW one thing then are as few as can be (the least such STEP)")
    static void nextLeastAndGreatestStep() {
        LimpMirror x = shown("h301254g0n12", "1234", "2134");
        c.asked("all the same: 0", x, x.next(0, 1), 0, 5);
        LimpMirror y = shown("h012340g0n12", "", "");
        c.asked("by 5 alone", y, y.next(0, 1), 5, 14);
        LimpMirror z = shown("h301254g0n12", "", "");
        c.asked("the least of those alike", z, z.next(0, 1), 1, 14);
    }

    @Edge(promise = 30, says = "how many these are by asked()")
    static void nextOfNoDoings() {
        LimpMirror x = new LimpMirror();
        x.row(0, 0);
        c.asked("without a room", x, x.next(0, 0), 1, 14);
    }

    @Edge(promise = 30, says = "SIZE: also 12 places")
    static void nextOfElevenAndOfTwelve() {
        LimpMirror x = Checks.told("h301254g0n12");
        x.row(0, 11);
        x.row(1, 11);
        c.asked("eleven", x, x.next(0, 1), 1, 11);
        x.row(0, 12);
        x.row(1, 12);
        c.finds("twelve", x, () -> x.next(0, 1), Checks.SIZE);
        c.finds("twelve, a row and itself", x, () -> x.next(0, 0), Checks.SIZE);
        x.lay(1, 0, 5);
        c.finds("twelve, no law", x, () -> x.next(0, 1), Checks.SIZE);
    }

    @Edge(promise = 30, says = "SIZE: also 12 places; UNLIKE")
    static void nextTwelveAheadOfUnlike() {
        LimpMirror x = Checks.told("h301254g0n12");
        x.row(0, 12);
        x.lay(0, 3, 6);
        c.finds("no step", x, () -> x.next(0, 0), Checks.SIZE);
    }

    @Edge(promise = 30, says = "BAD")
    static void nextOfNoRow() {
        RowCalls.noPair(c, NEXT);
    }

    @Edge(promise = 30, says = "NOTHING")
    static void nextOfAMissingRow() {
        RowCalls.missingOfPair(c, NEXT);
    }

    @Edge(promise = 30, says = "SIZE: more than 12")
    static void nextOfThirteen() {
        RowCalls.tooManyOfPair(c, NEXT, 11);
        LimpMirror x = Checks.told(Checks.FAIR);
        x.row(0, 13);
        c.finds("thirteen", x, () -> x.next(0, 0), Checks.SIZE);
    }

    @Edge(promise = 30, says = "UNLIKE")
    static void nextOfNoStep() {
        RowCalls.noStepOfPair(c, NEXT);
    }

    @Edge(promise = 30, says = "each NOTHING; SIZE: more than 12; UNLIKE")
    static void nextFirstAhead() {
        RowCalls.firstAhead(c, NEXT, 12);
    }

    @Edge(promise = 30, says = "then SIZE: not as many")
    static void nextNotAsMany() {
        RowCalls.notAsMany(c, NEXT);
    }

    @Edge(promise = 30, says = "UNLIKE; then SIZE: not as many")
    static void nextUnlikeAheadOfNotAsMany() {
        RowCalls.unlikeAheadOfNotAsMany(c, NEXT);
    }

    // ---- 31 he

    @Edge(promise = 31, says = "1 the first alone, 2 the second alone, 3 either, 0 neither")
    static void heEachAnswer() {
        LimpMirror x = shown("h000000l1g0n12", "1203", "0210");
        c.asked("the first alone", x, x.he(0, 0, 1), 1, 0);
        c.asked("the second alone", x, x.he(0, 1, 0), 2, 0);
        c.asked("neither", x, x.he(1, 0, 1), 0, 0);
        Checks.fill(x, 1, "2103");
        c.asked("either", x, x.he(1, 0, 1), 3, LimpMirror.NONE);
    }

    @Edge(promise = 31, says = "the first place at which not both can be any more by asked() (NONE: there is none)")
    static void heAtFirstAndLastPlace() {
        LimpMirror x = shown("h000000g0n12", "100000000000", "200000000000");
        c.asked("either of twelve", x, x.he(0, 0, 1), 3, LimpMirror.NONE);
        Checks.fill(x, 1, "200000000003");
        c.asked("the last place", x, x.he(0, 0, 1), 0, 11);
        Checks.fill(x, 1, "100000000000");
        c.asked("the first place", x, x.he(0, 0, 1), 0, 0);
    }

    @Edge(promise = 31, says = "at which not both can be any more")
    static void heWhereEachFailsAtAnotherPlace() {
        LimpMirror x = shown("h000000t0n12", "3030", "3443");
        c.asked("the first at 1, the second at 2", x, x.he(0, 0, 1), 0, 1);
        c.asked("the other way round", x, x.he(0, 1, 0), 0, 1);
        Checks.fill(x, 0, "3333");
        Checks.fill(x, 1, "3030");
        c.asked("the second alone fails", x, x.he(0, 0, 1), 1, 1);
        c.asked("the first alone fails", x, x.he(0, 1, 0), 2, 1);
    }

    @Edge(promise = 31, says = "(NONE: there is none)")
    static void heOfNone() {
        LimpMirror x = shown("h000000g0l3n12", "", "");
        c.asked("glass", x, x.he(0, 0, 1), 3, LimpMirror.NONE);
        c.asked("late", x, x.he(1, 0, 1), 3, LimpMirror.NONE);
    }

    @Edge(promise = 31, says = "BAD")
    static void heBeforeNoGlass() {
        RowCalls.noGlass(c, (x, k, r) -> x.he(k, r, r));
    }

    @Edge(promise = 31, says = "behind BAD")
    static void heBadAhead() {
        RowCalls.badAhead(c, (x, k, r) -> x.he(k, r, r));
    }

    @Edge(promise = 31, says = "BAD")
    static void heOfNoRow() {
        RowCalls.noPair(c, HE);
    }

    @Edge(promise = 31, says = "NOTHING")
    static void heOfAMissingRow() {
        RowCalls.missingOfPair(c, HE);
    }

    @Edge(promise = 31, says = "SIZE: more than 12")
    static void heOfThirteen() {
        RowCalls.tooManyOfPair(c, HE, 12);
    }

    @Edge(promise = 31, says = "UNLIKE")
    static void heOfNoStep() {
        RowCalls.noStepOfPair(c, HE);
    }

    @Edge(promise = 31, says = "each NOTHING; SIZE: more than 12; UNLIKE")
    static void heFirstAhead() {
        RowCalls.firstAhead(c, HE, 12);
    }

    @Edge(promise = 31, says = "then SIZE: not as many")
    static void heNotAsMany() {
        RowCalls.notAsMany(c, HE);
    }

    @Edge(promise = 31, says = "UNLIKE; then SIZE: not as many")
    static void heUnlikeAheadOfNotAsMany() {
        RowCalls.unlikeAheadOfNotAsMany(c, HE);
    }
}
