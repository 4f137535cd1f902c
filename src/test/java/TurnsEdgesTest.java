/** The boundary cases of promises 32 to 38: rows that break no term, turns, puddles, lots. */
public final class TurnsEdgesTest {
    private static final Checks c = new Checks();
    private static final int MIN = Integer.MIN_VALUE, MAX = Integer.MAX_VALUE;
    private static final int[] NO_GLASSES = {-1, 6, MIN, MAX};
    /** Whatever he does, it breaks a term where 0 is shown. */
    private static final String NO_NOUGHTS = "n00n10n20n30n40n50";
    /** Whatever he does before a glass, it breaks a term. */
    private static final String NO_GLASS = "n00n12n21n33n44n55";

    private static final RowCalls.OfRow ODDS = (x, k, r) -> x.odds(k, r, 6);
    private static final RowCalls.OfRow MID = (x, k, r) -> x.mid(k, r, 6);

    public static void main(String[] args) throws Exception {
        Edges.run(c, TurnsEdgesTest.class, 32, 38);
    }

    private static void keeps(LimpMirror x, int k, int n, long rows, int firsts) {
        c.told("keeps(" + k + ", " + n + ")", x, x.keeps(k, n), rows, 1);
        c.due("asked() behind keeps(" + k + ", " + n + ")", x.asked(), firsts);
    }

    // ---- 32 keeps

    @Edge(promise = 32, says = "How many DOINGS of n (0 .. 5) STEPS")
    static void keepsOfNone() {
        LimpMirror x = Checks.told("h000000g0l3" + NO_GLASS);
        keeps(x, 0, 0, 1, 0);
        keeps(x, 1, 0, 1, 0);
        keeps(x, 1, 1, 5, 62);
        keeps(x, 1, 0, 1, 0);
    }

    @Edge(promise = 32, says = "How many DOINGS of n (0 .. 5) STEPS")
    static void keepsOfFive() {
        LimpMirror x = Checks.told("h000000g0l3t0");
        keeps(x, 0, 5, 7776, 63);
        keeps(x, 1, 5, 7776, 63);
        LimpMirror y = Checks.told("h000000g0l3n12");
        keeps(y, 0, 5, 3125, 61);
        keeps(y, 1, 5, 6 * 35 * 35, 63);
    }

    @Edge(promise = 32, says = "told by upper() (lower() is 1)")
    static void keepsNone() {
        LimpMirror x = Checks.told("h000000g0t0" + NO_GLASS);
        for (int n = 1; n <= 5; n++) {
            keeps(x, 0, n, 0, 0);
        }
        LimpMirror y = Checks.told("h000000t0i0" + NO_NOUGHTS);
        keeps(y, 0, 1, 5, 62);
        keeps(y, 0, 2, 0, 0);
        keeps(y, 1, 2, 25, 62);
        keeps(y, 1, 3, 0, 0);
    }

    @Edge(promise = 32, says = "STEPS that can be the first of these by asked() (bits)")
    static void keepsWhereAFirstStepCantGoOn() {
        LimpMirror x = Checks.told("h000000l1n02n12n22n32n42n52");
        keeps(x, 0, 1, 6, 63);
        keeps(x, 0, 2, 30, 61);
        LimpMirror y = Checks.told("h000000l1n05n15n25n35n45n55");
        keeps(y, 0, 2, 30, 31);
        LimpMirror z = Checks.told("h000000g0n12n21n33n44n55");
        keeps(z, 0, 5, 1, 1);
        LimpMirror w = Checks.told("h000000t0n12n21n33n44n55");
        keeps(w, 0, 2, 6, 1);
    }

    @Edge(promise = 32, says = "BAD")
    static void keepsOfNoNumber() {
        LimpMirror x = Checks.told(Checks.FAIR);
        for (int n : new int[] {-1, 6, MIN, MAX}) {
            c.bad("keeps(0, " + n + ")", x, () -> x.keeps(0, n));
        }
    }

    @Edge(promise = 32, says = "BAD")
    static void keepsBeforeNoGlass() {
        LimpMirror x = Checks.told(Checks.FAIR);
        for (int k : NO_GLASSES) {
            c.bad("keeps(" + k + ", 1)", x, () -> x.keeps(k, 1));
        }
        LimpMirror y = Checks.told("h000000g0n12");
        c.bad("before 1 of one", y, () -> y.keeps(1, 0));
        LimpMirror z = Checks.fresh();
        c.bad("without a room", z, () -> z.keeps(0, 0));
    }

    // ---- 33 still

    @Edge(promise = 33, says = "The fewest places (of n, 0 .. 5) that must be still")
    static void stillOfNoneAndOfFive() {
        LimpMirror x = Checks.told("h000000g0t0l3n12n21n33n44n55");
        c.due("all five", x.still(0, 5), 5);
        c.due("one", x.still(0, 1), 1);
        c.due("even places", x.still(1, 5), 3);
        c.due("nowhere", x.still(2, 5), 0);
        for (int k = 0; k <= 2; k++) {
            c.due("of none before " + k, x.still(k, 0), 0);
        }
    }

    @Edge(promise = 33, says = "that must be still (STEP 0) in DOINGS that break no TERM")
    static void stillForWhatIsShownLater() {
        LimpMirror x = Checks.told("h000000l2l1i1n10n20n30n40n50");
        c.due("still at two, then for ever", x.still(0, 5), 5);
        c.due("still at one, then for ever", x.still(1, 5), 5);
        c.due("a limp", x.still(2, 5), 5);
        LimpMirror y = Checks.told("h000000l1n10n20n30n40n00n03");
        c.due("5 first, then what goes on", y.still(0, 5), 0);
        LimpMirror z = Checks.told("h000000l1n50n40n30n20n10n11n12");
        c.due("still at first, then still", z.still(0, 2), 2);
        LimpMirror w = Checks.told("h000000l1n13n23n33n43n53n50n40n20");
        c.due("3 first, still behind it; 1 first, free behind it", w.still(0, 2), 0);
        LimpMirror v = Checks.told("h000000l3n30n01n50n40n41n10n42");
        c.due("2 thrice, then 5 twice", v.still(0, 5), 0);
    }

    @Edge(promise = 33, says = "NONE: there are no such DOINGS")
    static void stillNone() {
        LimpMirror x = Checks.told("h000000g0n00n12n21n33n44n55");
        for (int n = 1; n <= 5; n++) {
            int places = n;
            c.none("still(0, " + n + ")", x, () -> x.still(0, places));
        }
        LimpMirror y = Checks.told("h000000i0" + NO_NOUGHTS);
        c.due("as long as it does not limp", y.still(0, 2), 0);
        c.none("where it limps", y, () -> y.still(0, 3));
        c.due("of none there always are", y.still(0, 0), 0);
    }

    @Edge(promise = 33, says = "BAD")
    static void stillOfNoNumber() {
        LimpMirror x = Checks.told(Checks.FAIR);
        for (int n : new int[] {-1, 6, MIN, MAX}) {
            c.bad("still(0, " + n + ")", x, () -> x.still(0, n));
        }
    }

    @Edge(promise = 33, says = "BAD")
    static void stillBeforeNoGlass() {
        LimpMirror x = Checks.told(Checks.FAIR);
        for (int k : NO_GLASSES) {
            c.bad("still(" + k + ", 1)", x, () -> x.still(k, 1));
        }
        LimpMirror y = Checks.told("h000000g0n12");
        c.bad("before 1 of one", y, () -> y.still(1, 0));
        LimpMirror z = Checks.fresh();
        c.bad("without a room", z, () -> z.still(0, 0));
    }

    // ---- 34 game

    @Edge(promise = 34, says = "n (0 .. 3) times")
    static void gameOfNoTurnsAndOfThree() {
        LimpMirror x = Checks.told("h000000g0" + NO_GLASS);
        c.due("no turns", x.game(0), 1);
        c.due("one turn", x.game(1), 0);
        LimpMirror y = Checks.told("h000000i0" + NO_NOUGHTS);
        c.due("two turns", y.game(2), 1);
        c.due("three turns, the last one where it limps", y.game(3), 0);
        LimpMirror z = Checks.told("h000000i0n10n20n30n40n50");
        c.due("three turns, still at the last one", z.game(3), 1);
    }

    @Edge(promise = 34, says = "the other one the GLASS before which it is done")
    static void gameOfTheLastGlass() {
        LimpMirror x = Checks.told("h000000l3l3l3l3l3g0n12n21n33n44n55");
        c.due("0 is safe before all", x.game(3), 1);
        LimpMirror y = Checks.told("h000000l3l3l3l3l3g0" + NO_GLASS);
        c.due("none is before the last one", y.game(1), 0);
    }

    @Edge(promise = 34, says = "from no DEEDS on")
    static void gameWhateverWasDone() {
        LimpMirror x = Checks.told("h000000t0" + NO_NOUGHTS);
        x.step(0, 1);
        c.due("from place 0 on", x.game(1), 1);
        c.due("deeds as they were", x.count(2), 1);
        for (int i = 1; i < 40; i++) {
            x.step(0, 1);
        }
        c.due("behind forty", x.game(1), 1);
        c.due("and two turns", x.game(2), 0);
    }

    @Edge(promise = 34, says = "BAD")
    static void gameOfNoNumber() {
        LimpMirror x = Checks.told(Checks.FAIR);
        for (int n : new int[] {-1, 4, MIN, MAX}) {
            c.bad("game(" + n + ")", x, () -> x.game(n));
        }
    }

    @Edge(promise = 34, says = "STATE: no GLASSES")
    static void gameWithoutGlasses() {
        LimpMirror x = Checks.fresh();
        c.state("game(0)", x, () -> x.game(0));
        c.state("game(3)", x, () -> x.game(3));
    }

    @Edge(promise = 34, says = "BAD; STATE")
    static void gameBadAheadOfState() {
        LimpMirror x = Checks.fresh();
        c.bad("game(4)", x, () -> x.game(4));
        c.bad("game(-1)", x, () -> x.game(-1));
    }

    // ---- 35 picks

    @Edge(promise = 35, says = "the least by which he breaks none")
    static void picksLeastAndGreatest() {
        LimpMirror x = Checks.told("h000000g0n12");
        c.due("0", x.picks(3), 0);
        LimpMirror y = Checks.told("h000000g0l1n00n12n21n33n44");
        c.due("5", y.picks(1), 5);
        c.due("5, three turns", y.picks(3), 5);
        LimpMirror z = Checks.told("h000000l1n00n02n12n22n32n42n52");
        c.due("1 of one turn", z.picks(1), 1);
        c.due("but 2 of two", z.picks(2), 2);
        c.due("and of three", z.picks(3), 2);
    }

    @Edge(promise = 35, says = "NONE: there is none")
    static void picksNone() {
        LimpMirror x = Checks.told("h000000g0" + NO_GLASS);
        for (int n = 1; n <= 3; n++) {
            int turns = n;
            c.none("picks(" + n + ")", x, () -> x.picks(turns));
        }
        LimpMirror y = Checks.told("h000000i0" + NO_NOUGHTS);
        c.due("two turns", y.picks(2), 1);
        c.none("three turns, the last one where it limps", y, () -> y.picks(3));
    }

    @Edge(promise = 35, says = "The STEP that he picks first so")
    static void picksWhateverWasDone() {
        LimpMirror x = Checks.told("h000000t0" + NO_NOUGHTS);
        x.step(0, 1);
        c.due("from place 0 on", x.picks(1), 1);
        c.due("deeds as they were", x.count(2), 1);
    }

    @Edge(promise = 35, says = "BAD: also n 0")
    static void picksOfNoTurns() {
        LimpMirror x = Checks.told(Checks.FAIR);
        c.bad("picks(0)", x, () -> x.picks(0));
        LimpMirror y = Checks.fresh();
        c.bad("picks(0) without glasses", y, () -> y.picks(0));
    }

    @Edge(promise = 35, says = "BAD")
    static void picksOfNoNumber() {
        LimpMirror x = Checks.told(Checks.FAIR);
        for (int n : new int[] {-1, 4, MIN, MAX}) {
            c.bad("picks(" + n + ")", x, () -> x.picks(n));
        }
        LimpMirror y = Checks.fresh();
        c.bad("picks(4) without glasses", y, () -> y.picks(4));
    }

    @Edge(promise = 35, says = "STATE")
    static void picksWithoutGlasses() {
        LimpMirror x = Checks.fresh();
        c.state("picks(1)", x, () -> x.picks(1));
        c.state("picks(3)", x, () -> x.picks(3));
    }

    // ---- 36 odds

    @Edge(promise = 36, says = "by PUDDLES of p (0 .. 12)")
    static void oddsOfNoPuddlesAndOfTwelve() {
        LimpMirror x = Checks.told("h000000g0n12n30");
        Checks.fill(x, 0, "1");
        c.told("never wet", x, x.odds(0, 0, 0), 0, 1);
        c.told("wet by one of twelve", x, x.odds(0, 0, 1), 1, 12);
        c.told("wet by eleven", x, x.odds(0, 0, 11), 11, 12);
        c.told("always wet", x, x.odds(0, 0, 12), 1, 1);
        Checks.fill(x, 0, "3");
        c.told("3, never wet", x, x.odds(0, 0, 0), 1, 1);
        c.told("3, always wet", x, x.odds(0, 0, 12), 0, 1);
    }

    @Edge(promise = 36, says = "in lowest terms, the lower number above 0 (0 by 1)")
    static void oddsInLowestTerms() {
        LimpMirror x = Checks.told("h000000g0n12n10");
        Checks.fill(x, 0, "1");
        c.told("broken, wet or not", x, x.odds(0, 0, 5), 0, 1);
        Checks.fill(x, 0, "2");
        c.told("broken by neither", x, x.odds(0, 0, 5), 1, 1);
        LimpMirror y = Checks.told("h000000g0n12");
        Checks.fill(y, 0, "11");
        c.told("six by twelve, twice", y, y.odds(0, 0, 6), 1, 4);
        c.told("eight by twelve, twice", y, y.odds(0, 0, 8), 4, 9);
    }

    @Edge(promise = 36, says = "Chances that DOINGS break no TERM before a GLASS")
    static void oddsOfNoneAndOfTwelvePlaces() {
        LimpMirror x = Checks.told("h000000g0n12");
        x.row(0, 0);
        c.told("of none", x, x.odds(0, 0, 5), 1, 1);
        Checks.fill(x, 0, "111111111111");
        c.told("by 5 of 12", x, x.odds(0, 0, 5), 244140625L, 8916100448256L);
        c.told("by 11 of 12", x, x.odds(0, 0, 11), 3138428376721L, 8916100448256L);
        c.told("by 1 of 12", x, x.odds(0, 0, 1), 1, 8916100448256L);
        LimpMirror y = Checks.told("h000000g0n00");
        y.row(0, 0);
        c.told("of none, though still breaks one", y, y.odds(0, 0, 5), 1, 1);
    }

    @Edge(promise = 36, says = "BAD")
    static void oddsOfNoPuddles() {
        LimpMirror x = Checks.told(Checks.FAIR);
        Checks.fill(x, 0, "12");
        for (int p : new int[] {-1, 13, MIN, MAX}) {
            c.bad("p " + p, x, () -> x.odds(0, 0, p));
            c.bad("p " + p + " of a missing row", x, () -> x.odds(0, 5, p));
        }
    }

    @Edge(promise = 36, says = "BAD")
    static void oddsBeforeNoGlass() {
        RowCalls.noGlass(c, ODDS);
    }

    @Edge(promise = 36, says = "BAD")
    static void oddsOfNoRow() {
        RowCalls.noRow(c, ODDS);
    }

    @Edge(promise = 36, says = "BAD; NOTHING")
    static void oddsBadAhead() {
        RowCalls.badAhead(c, ODDS);
    }

    @Edge(promise = 36, says = "NOTHING")
    static void oddsOfAMissingRow() {
        RowCalls.missing(c, ODDS);
    }

    @Edge(promise = 36, says = "SIZE: more than 12")
    static void oddsOfThirteen() {
        RowCalls.tooMany(c, ODDS, 12);
    }

    @Edge(promise = 36, says = "UNLIKE")
    static void oddsOfNoStep() {
        RowCalls.noStep(c, ODDS, 12);
    }

    @Edge(promise = 36, says = "SIZE: more than 12; UNLIKE")
    static void oddsSizeAhead() {
        RowCalls.sizeAhead(c, ODDS, 12);
    }

    // ---- 37 mid

    @Edge(promise = 37, says = "The mean of how many places break a TERM so: 1")
    static void midOfNoneAndOfTwelvePlaces() {
        LimpMirror x = Checks.told("h000000g0n12");
        x.row(0, 0);
        c.told("of none", x, x.mid(0, 0, 5), 0, 1);
        Checks.fill(x, 0, "222222222222");
        c.told("none of twelve", x, x.mid(0, 0, 5), 0, 1);
        Checks.fill(x, 0, "111111111111");
        c.told("all twelve", x, x.mid(0, 0, 0), 12, 1);
        c.told("by 5 of 12", x, x.mid(0, 0, 5), 7, 1);
        c.told("all wet", x, x.mid(0, 0, 12), 0, 1);
        LimpMirror y = Checks.told("h000000g0n00");
        y.row(0, 0);
        c.told("of none, though still breaks one", y, y.mid(0, 0, 5), 0, 1);
    }

    @Edge(promise = 37, says = "in lowest terms, the lower number above 0 (0 by 1)")
    static void midInLowestTerms() {
        LimpMirror x = Checks.told("h000000g0n12n10n30");
        Checks.fill(x, 0, "3");
        c.told("1 by 12", x, x.mid(0, 0, 1), 1, 12);
        c.told("8 by 12", x, x.mid(0, 0, 8), 2, 3);
        c.told("3, always wet", x, x.mid(0, 0, 12), 1, 1);
        Checks.fill(x, 0, "31");
        c.told("one place, wet or not, and one by 6", x, x.mid(0, 0, 6), 3, 2);
    }

    @Edge(promise = 37, says = "BAD")
    static void midOfNoPuddles() {
        LimpMirror x = Checks.told(Checks.FAIR);
        Checks.fill(x, 0, "12");
        for (int p : new int[] {-1, 13, MIN, MAX}) {
            c.bad("p " + p, x, () -> x.mid(0, 0, p));
            c.bad("p " + p + " of a missing row", x, () -> x.mid(0, 5, p));
        }
    }

    @Edge(promise = 37, says = "BAD")
    static void midBeforeNoGlass() {
        RowCalls.noGlass(c, MID);
    }

    @Edge(promise = 37, says = "BAD")
    static void midOfNoRow() {
        RowCalls.noRow(c, MID);
    }

    @Edge(promise = 37, says = "BAD; NOTHING")
    static void midBadAhead() {
        RowCalls.badAhead(c, MID);
    }

    @Edge(promise = 37, says = "NOTHING")
    static void midOfAMissingRow() {
        RowCalls.missing(c, MID);
    }

    @Edge(promise = 37, says = "SIZE")
    static void midOfThirteen() {
        RowCalls.tooMany(c, MID, 12);
    }

    @Edge(promise = 37, says = "UNLIKE")
    static void midOfNoStep() {
        RowCalls.noStep(c, MID, 12);
    }

    @Edge(promise = 37, says = "NOTHING; SIZE; UNLIKE")
    static void midSizeAhead() {
        RowCalls.sizeAhead(c, MID, 12);
    }

    // ---- 38 lots

    private static void lot(LimpMirror x, int d, int glass, int step) {
        c.asked("glass of deed " + d, x, x.deed(d, 1), 1, glass);
        c.asked("step of deed " + d, x, x.deed(d, 0), 1, step);
    }

    @Edge(promise = 38, says = "the first from a seed (1 .. 2147483646)")
    static void lotsOfTheLeastSeed() {
        LimpMirror x = Checks.told("h000000g0l0g0l0g0");
        c.due("lots(2, 1)", x.lots(2, 1), 0);
        // 48271, then 182605794
        lot(x, 0, 1, 3);
        lot(x, 1, 4, 2);
    }

    @Edge(promise = 38, says = "a number comes from the one ahead by 48271 times it modulo 2147483647")
    static void lotsOfTheGreatestSeed() {
        LimpMirror x = Checks.told("h000000g0l0g0l0g0");
        c.due("lots(2, 2147483646)", x.lots(2, 2147483646), 0);
        // 2147435376, then 1964877853: an int's product would wrap around
        lot(x, 0, 1, 0);
        lot(x, 1, 3, 1);
    }

    @Edge(promise = 38, says = "n (1 .. 20) STEPS truly by LOTS of a seed")
    static void lotsOfOneAndOfTwenty() {
        LimpMirror x = Checks.told("h000000g0n12");
        x.lots(1, 5);
        c.due("one deed", x.count(2), 1);
        x.lots(20, 5);
        c.due("twenty more", x.count(2), 21);
        LimpMirror y = Checks.told("h000000g0n12");
        y.lots(20, 5);
        x.undo(1);
        y.undo(1);
        c.due("the same seed, the same lot", x.digest(), y.digest());
    }

    @Edge(promise = 38, says = "how many broke a TERM")
    static void lotsOfThoseAloneThatBroke() {
        LimpMirror x = Checks.told("h000000g0" + NO_GLASS);
        Checks.steps(x, 0, 1, 1, 1);
        c.due("all twenty", x.lots(20, 9), 20);
        c.due("and three ahead", x.count(3), 23);
        LimpMirror y = Checks.told("h000000g0");
        c.due("none", y.lots(20, 9), 0);
    }

    @Edge(promise = 38, says = "BAD")
    static void lotsOfNoNumber() {
        LimpMirror x = Checks.told(Checks.FAIR);
        for (int n : new int[] {0, 21, -1, MIN, MAX}) {
            c.bad("lots(" + n + ", 1)", x, () -> x.lots(n, 1));
        }
    }

    @Edge(promise = 38, says = "a seed (1 .. 2147483646)")
    static void lotsOfNoSeed() {
        LimpMirror x = Checks.told(Checks.FAIR);
        for (int seed : new int[] {0, -1, MIN, MAX}) {
            c.bad("lots(1, " + seed + ")", x, () -> x.lots(1, seed));
        }
    }

    @Edge(promise = 38, says = "STATE: no GLASSES")
    static void lotsWithoutGlasses() {
        LimpMirror x = Checks.fresh();
        c.state("lots(1, 1)", x, () -> x.lots(1, 1));
        c.state("lots(20, 2147483646)", x, () -> x.lots(20, 2147483646));
    }

    @Edge(promise = 38, says = "BAD; STATE: no GLASSES")
    static void lotsBadAheadOfState() {
        LimpMirror x = Checks.fresh();
        c.bad("lots(0, 1)", x, () -> x.lots(0, 1));
        c.bad("lots(21, 1)", x, () -> x.lots(21, 1));
        c.bad("lots(1, 0)", x, () -> x.lots(1, 0));
    }

    @Edge(promise = 38, says = "FULL: with n more there would be more than 40 DEEDS")
    static void lotsUpToFortyAndMore() {
        LimpMirror x = Checks.told("h000000g0n12");
        x.lots(20, 3);
        Checks.steps(x, 0, 0);
        c.full("forty-one", x, () -> x.lots(20, 3));
        c.due("forty", x.lots(19, 3) >= 0 ? 1 : 0, 1);
        c.due("deeds", x.count(2), 40);
        c.full("one more", x, () -> x.lots(1, 3));
    }

    @Edge(promise = 38, says = "(FULL last.)")
    static void lotsBadAheadOfFull() {
        LimpMirror x = Checks.told("h000000g0n12");
        x.lots(20, 3);
        x.lots(20, 3);
        c.bad("lots(21, 1)", x, () -> x.lots(21, 1));
        c.bad("lots(0, 1)", x, () -> x.lots(0, 1));
        c.bad("lots(1, 0)", x, () -> x.lots(1, 0));
    }
}
