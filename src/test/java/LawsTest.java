/** Promises 29 to 31: laws of a glass, what to do next, which row is he. */
public final class LawsTest {
    private static final Checks c = new Checks();

    public static void main(String[] args) {
        laws();
        next();
        nextRefused();
        he();
        refused();
        c.end();
    }

    private static int bits(int... laws) {
        int all = 0;
        for (int law : laws) {
            all |= 1 << law;
        }
        return all;
    }

    private static void laws() {
        LimpMirror x = Checks.roomOf("h301254g0");
        x.row(0, 0);
        c.due("all", x.laws(0, 0), (1 << 24) - 1);
        Checks.fill(x, 0, "1234");
        Checks.fill(x, 1, "0213");
        c.due("late by 1", x.laws(0, 1), bits(5));
        Checks.fill(x, 1, "2134");
        c.due("glass, or late by 0", x.laws(0, 1), bits(0, 1, 2, 3, 4));
        Checks.fill(x, 1, "2030");
        c.due("thin", x.laws(0, 1), bits(8, 9, 10, 11));
        Checks.fill(x, 1, "0215");
        c.due("thought", x.laws(0, 1), bits(12, 13, 14, 15));
        Checks.fill(x, 1, "2104");
        c.due("limp by 0", x.laws(0, 1), bits(16));
        Checks.fill(x, 1, "2235");
        c.due("friend", x.laws(0, 1), bits(20, 21, 22, 23));
        Checks.fill(x, 1, "0000");
        c.due("none", x.laws(0, 1), 0);
        Checks.fill(x, 1, "000");
        Checks.fill(x, 0, "123");
        c.due("late by 3, limp by 2, 3", x.laws(0, 1), bits(7, 18, 19));
        LimpMirror y = new LimpMirror();
        Checks.fill(y, 0, "33");
        Checks.fill(y, 1, "00");
        c.due("without a room he thinks of 0", y.laws(0, 1),
                bits(6, 7, 12, 13, 14, 15, 18, 19));
    }

    private static void next() {
        LimpMirror x = Checks.roomOf("h301254g0");
        Checks.fill(x, 0, "1234");
        Checks.fill(x, 1, "2134");
        c.asked("all five show the same", x, x.next(0, 1), 0, 5);
        Checks.fill(x, 1, "0213");
        c.due("one law", x.next(0, 1), LimpMirror.NONE);
        c.due("asked() as lay told it", x.asked(), 0);
        Checks.fill(x, 0, "123");
        Checks.fill(x, 1, "000");
        x.lay(1, 0, 0);
        // late by 3 and limp by 3 show the first step (2), limp by 2 the second one (1)
        c.asked("late, limp", x, x.next(0, 1), 0, 2);
        x.row(2, 0);
        // of step 1 glass, thin, friend and the two of delay 0 show 2; of step 0 all but thought show 0
        c.asked("first step", x, x.next(2, 2), 1, 14);
    }

    private static void nextRefused() {
        LimpMirror x = new LimpMirror();
        x.row(0, 12);
        x.row(1, 12);
        c.found("twelve places", x, x.next(0, 1), Checks.SIZE);
        x.lay(0, 0, 9);
        c.found("twelve places ahead of no step", x, x.next(0, 1), Checks.SIZE);
        x.row(0, 11);
        x.row(1, 11);
        c.due("eleven places", x.next(0, 1), 1);
        x.lay(0, 3, 6);
        c.found("no step", x, x.next(0, 1), Checks.UNLIKE);
        x.lay(0, 3, 0);
        x.lay(1, 0, 1);
        c.due("no law", x.next(0, 1), LimpMirror.NONE);
    }

    private static void he() {
        LimpMirror x = Checks.roomOf("h000000g0l1o0t0");
        Checks.fill(x, 0, "1203");
        Checks.fill(x, 1, "2103");
        c.asked("either", x, x.he(0, 0, 1), 3, LimpMirror.NONE);
        Checks.fill(x, 1, "2102");
        c.asked("neither", x, x.he(0, 0, 1), 0, 3);
        Checks.fill(x, 1, "0210");
        c.asked("the first", x, x.he(1, 0, 1), 1, 0);
        c.asked("the second", x, x.he(1, 1, 0), 2, 0);
        Checks.fill(x, 0, "0333");
        Checks.fill(x, 1, "0003");
        c.asked("not both behind a while", x, x.he(1, 0, 1), 0, 1);
        Checks.fill(x, 0, "3333");
        Checks.fill(x, 1, "3033");
        c.asked("each fails somewhere", x, x.he(3, 0, 1), 0, 1);
        Checks.fill(x, 1, "3030");
        c.asked("the first alone, thin", x, x.he(3, 0, 1), 1, 1);
        x.row(0, 0);
        x.row(1, 0);
        c.asked("of none", x, x.he(0, 0, 1), 3, LimpMirror.NONE);
    }

    private static void refused() {
        LimpMirror x = Checks.roomOf("h000000g0");
        for (int bad : new int[] {-1, 6}) {
            c.due("laws of no row", x.laws(bad, 0), LimpMirror.BAD);
            c.due("laws by no row", x.laws(0, bad), LimpMirror.BAD);
            c.due("next of no row", x.next(bad, 0), LimpMirror.BAD);
            c.due("next by no row", x.next(0, bad), LimpMirror.BAD);
            c.due("he before no glass", x.he(bad, 0, 0), LimpMirror.BAD);
            c.due("he of no row", x.he(0, bad, 0), LimpMirror.BAD);
            c.due("he by no row", x.he(0, 0, bad), LimpMirror.BAD);
        }
        ShownTest.pairRefused(c, x, "laws");
        ShownTest.pairRefused(c, x, "next");
        ShownTest.pairRefused(c, x, "he");
    }
}
