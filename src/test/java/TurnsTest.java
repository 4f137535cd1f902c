/** Promises 32 to 38: rows that break no term, turns, puddles, lots. */
public final class TurnsTest {
    private static final Checks c = new Checks();

    public static void main(String[] args) {
        keeps();
        still();
        game();
        odds();
        mid();
        puddlesRefused();
        lots();
        lotsRefused();
        c.end();
    }

    private static void keeps() {
        LimpMirror x = Checks.roomOf("h000000g0l1t0n12n00n30");
        c.told("of none", x, x.keeps(0, 0), 1, 1);
        c.due("first of none", x.asked(), 0);
        c.told("glass", x, x.keeps(0, 5), 1024, 1);
        c.due("first before a glass", x.asked(), 2 * 2 + 8 + 16 + 32);
        c.told("late", x, x.keeps(1, 2), 4 * 6 - 1, 1);
        c.due("first before a late one", x.asked(), 2 + 4 + 16 + 32);
        c.told("late, one", x, x.keeps(1, 1), 4, 1);
        c.told("thin, two", x, x.keeps(2, 2), 16, 1);
        x = Checks.roomOf("h000000l3n00n10n20n30n40n50");
        c.told("none can be", x, x.keeps(0, 5), 0, 1);
        c.due("no first", x.asked(), 0);
        x = Checks.roomOf("h000000t0n00n10n20n30n40n50");
        c.told("some of one", x, x.keeps(0, 1), 5, 1);
        c.due("first of one", x.asked(), 62);
        c.told("none of two", x, x.keeps(0, 2), 0, 1);
        c.due("no first of two", x.asked(), 0);
        x.keeps(0, 1);
        c.told("of none, behind one", x, x.keeps(0, 0), 1, 1);
        c.due("first of none, behind one", x.asked(), 0);
        x = Checks.roomOf("h000000l1n02n12n22n32n42n52");
        c.told("of none, behind others", x, x.keeps(0, 0), 1, 1);
        c.due("first of none, behind others", x.asked(), 0);
        c.told("1 but at the end", x, x.keeps(0, 2), 30, 1);
        c.due("not 1 first", x.asked(), 63 - 2);
        for (int bad : new int[] {-1, 6}) {
            c.due("keeps of too many", x.keeps(0, bad), LimpMirror.BAD);
            c.due("keeps before no glass", x.keeps(bad, 0), LimpMirror.BAD);
            c.due("still of too many", x.still(0, bad), LimpMirror.BAD);
            c.due("still before no glass", x.still(bad, 0), LimpMirror.BAD);
        }
        c.due("no glass", new LimpMirror().keeps(0, 0), LimpMirror.BAD);
    }

    private static void still() {
        LimpMirror x = Checks.roomOf("h000000g0t0l1n12n21n33n44n55");
        c.due("still at each place", x.still(0, 5), 5);
        c.due("still at even places", x.still(1, 5), 3);
        c.due("still nowhere", x.still(2, 5), 0);
        c.due("none", x.still(0, 0), 0);
        x = Checks.roomOf("h000000l2n10n20n30n40n50");
        c.due("still at two, then for ever", x.still(0, 5), 5);
        x = Checks.roomOf("h000000l2n00n10n20n30n40n50");
        c.due("no way", x.still(0, 1), LimpMirror.NONE);
        c.due("no way of none is needed", x.still(0, 0), 0);
        x = Checks.roomOf("h000000i1n10n20n30n40n50");
        c.due("still ahead of the first, then for ever", x.still(0, 4), 4);
        x = Checks.roomOf("h000000i0n10n20n30n40n50");
        c.due("still where it limps", x.still(0, 5), 1);
    }

    private static void game() {
        LimpMirror x = Checks.roomOf("h000000g0n00n12");
        c.due("no turns", x.game(0), 1);
        c.due("three turns", x.game(3), 1);
        c.due("2 is safe, 0 and 1 are not", x.picks(3), 2);
        x = Checks.roomOf("h000000g0t0n00n12n21n33n44n55");
        c.due("none is safe", x.game(1), 0);
        c.due("no pick", x.picks(1), LimpMirror.NONE);
        c.due("no turns, still", x.game(0), 1);
        x = Checks.roomOf("h000000g0l1n00n12n21n33n44");
        c.due("5, then 5", x.game(3), 1);
        c.due("picks 5", x.picks(2), 5);
        x.step(0, 0);
        c.due("from no deeds on", x.picks(2), 5);
        x = Checks.roomOf("h000000g0l1n03n13n23n33n43n53n44");
        c.due("one turn: 0", x.picks(1), 0);
        c.due("two turns: 0", x.picks(2), 0);
        x = Checks.roomOf("h000000g0l1n00n11n21n12n15n55n44");
        c.due("3 alone goes on", x.picks(2), 3);
        x = Checks.roomOf("h000000l1n00n02n12n22n32n42n52");
        c.due("1 is safe now", x.picks(1), 1);
        c.due("but not at the second turn", x.picks(2), 2);
        c.due("nor at the second of three", x.picks(3), 2);
        x = Checks.roomOf("h000000g0t0n00n10n20n30n40n50");
        c.due("1 is safe at an even turn", x.picks(1), 1);
        c.due("none is at an odd one", x.picks(2), LimpMirror.NONE);
        c.due("the first turn can be won", x.game(1), 1);
        c.due("the second one can't", x.game(2), 0);
        for (int bad : new int[] {-1, 4}) {
            c.due("game(" + bad + ")", x.game(bad), LimpMirror.BAD);
            c.due("picks(" + bad + ")", x.picks(bad), LimpMirror.BAD);
        }
        c.due("picks(0)", x.picks(0), LimpMirror.BAD);
        LimpMirror y = new LimpMirror();
        c.due("game, no glasses", y.game(0), LimpMirror.STATE);
        c.due("game(4), no glasses", y.game(4), LimpMirror.BAD);
        c.due("picks, no glasses", y.picks(1), LimpMirror.STATE);
        c.due("picks(0), no glasses", y.picks(0), LimpMirror.BAD);
    }

    private static void odds() {
        LimpMirror x = Checks.roomOf("h000000g0l1n12n30n44n40");
        Checks.fill(x, 0, "1");
        c.told("dry", x, x.odds(0, 0, 0), 0, 1);
        c.told("wet", x, x.odds(0, 0, 12), 1, 1);
        c.told("puddles", x, x.odds(0, 0, 3), 1, 4);
        Checks.fill(x, 0, "31");
        c.told("both ways", x, x.odds(0, 0, 4), 2, 9);
        Checks.fill(x, 0, "4");
        c.told("by either", x, x.odds(0, 0, 4), 0, 1);
        Checks.fill(x, 0, "23");
        c.told("late", x, x.odds(1, 0, 5), 7, 12);
        x.row(0, 0);
        c.told("of none", x, x.odds(0, 0, 5), 1, 1);
        Checks.fill(x, 0, "111111111111");
        c.told("twelve", x, x.odds(0, 0, 5), 244140625L, 8916100448256L);
        c.due("p below 0", x.odds(0, 0, -1), LimpMirror.BAD);
        c.due("p above 12", x.odds(0, 0, 13), LimpMirror.BAD);
        c.due("p above 12, missing", x.odds(0, 5, 13), LimpMirror.BAD);
    }

    private static void mid() {
        LimpMirror x = Checks.roomOf("h000000g0l1n12n30n44n40");
        Checks.fill(x, 0, "1");
        c.told("puddles", x, x.mid(0, 0, 3), 3, 4);
        Checks.fill(x, 0, "31");
        c.told("both ways", x, x.mid(0, 0, 4), 1, 1);
        Checks.fill(x, 0, "2");
        c.told("never", x, x.mid(0, 0, 4), 0, 1);
        Checks.fill(x, 0, "444");
        c.told("always", x, x.mid(0, 0, 7), 3, 1);
        Checks.fill(x, 0, "33");
        c.told("late", x, x.mid(1, 0, 2), 7, 6);
        x.row(0, 0);
        c.told("of none", x, x.mid(0, 0, 5), 0, 1);
        c.due("p below 0", x.mid(0, 0, -1), LimpMirror.BAD);
        c.due("p above 12", x.mid(0, 0, 13), LimpMirror.BAD);
    }

    private static void puddlesRefused() {
        ShownTest.rowRefused(c, "odds", 12);
        ShownTest.rowRefused(c, "mid", 12);
    }

    private static void lots() {
        LimpMirror x = Checks.roomOf("h301254g0t0o0f0l1n12n21n00n33");
        LimpMirror y = Checks.roomOf("h301254g0t0o0f0l1n12n21n00n33");
        Checks.steps(x, 0, 1, 0);
        Checks.steps(y, 0, 1, 0);
        long lot = 77;
        for (int i = 0; i < 20; i++) {
            lot = lot * 48271 % 2147483647;
            y.step((int) (lot % 5), (int) (lot / 8 % 6));
        }
        c.due("lots(20, 77)", x.lots(20, 77), y.count(3) - 2);
        c.due("truly done", x.digest(), y.digest());
        c.due("deeds", x.count(2), 22);
        // 48271 % 2 is glass 1, 48271 / 8 % 6 is step 3; the second lot is 182605794: 0, and 2
        x = Checks.roomOf("h000000g0o0n30");
        c.due("seed 1", x.lots(2, 1), 1);
        c.asked("glass of lot 0", x, x.deed(0, 1), 1, 1);
        c.asked("step of lot 0", x, x.deed(0, 0), 1, 48271 / 8 % 6);
        c.asked("glass of lot 1", x, x.deed(1, 1), 1, 0);
        c.asked("step of lot 1", x, x.deed(1, 0), 1, 182605794 / 8 % 6);
    }

    private static void lotsRefused() {
        LimpMirror x = new LimpMirror();
        c.due("lots(0, 1)", x.lots(0, 1), LimpMirror.BAD);
        c.due("lots(21, 1)", x.lots(21, 1), LimpMirror.BAD);
        c.due("lots(1, 0)", x.lots(1, 0), LimpMirror.BAD);
        c.due("lots(1, -1)", x.lots(1, -1), LimpMirror.BAD);
        c.due("lots(1, max)", x.lots(1, 2147483647), LimpMirror.BAD);
        c.due("no glasses", x.lots(1, 1), LimpMirror.STATE);
        x = Checks.roomOf("h000000g0");
        c.due("the greatest seed", x.lots(20, 2147483646) >= 0 ? 1 : 0, 1);
        Checks.steps(x, 0, 1);
        c.due("one too many", x.lots(20, 5), LimpMirror.FULL);
        c.due("deeds", x.count(2), 21);
        c.due("just as many", x.lots(19, 5), 0);
        c.due("full", x.lots(1, 5), LimpMirror.FULL);
        c.due("BAD ahead of FULL", x.lots(0, 5), LimpMirror.BAD);
    }
}
