/** Promises 16 to 21: deeds, undone, kept. */
public final class DeedsTest {
    private static final Checks c = new Checks();

    public static void main(String[] args) {
        step();
        stepRefused();
        deed();
        broken();
        undo();
        keepAndOn();
        c.end();
    }

    private static void step() {
        LimpMirror x = Checks.roomOf("h301254 g3 l2 t0 o0 i1 f0");
        c.due("place 0, glass, whatever its delay", x.step(0, 1), 2);
        c.due("place 1, late by 2", x.step(1, 3), 0);
        c.due("place 2, late by 2", x.step(1, 4), 2);
        c.due("place 3, thin, odd", x.step(2, 5), 0);
        c.due("place 4, thin, even", x.step(2, 2), 1);
        c.due("place 5, limp", x.step(4, 3), 0);
        c.due("place 6, limp late by 1", x.step(4, 0), 3);
        c.due("place 7, friend, odd", x.step(5, 3), 1);
        c.due("place 8, friend, even", x.step(5, 3), 3);
        c.due("place 9, thought", x.step(3, 0), 3);
        c.due("place 10, thought, mirrored", x.step(3, 2), 2);
        c.due("deeds", x.count(2), 11);
    }

    private static void stepRefused() {
        LimpMirror x = new LimpMirror();
        c.due("no glasses", x.step(0, 0), LimpMirror.BAD);
        x = Checks.roomOf("h000000g0");
        c.due("step(1, 0)", x.step(1, 0), LimpMirror.BAD);
        c.due("step(-1, 0)", x.step(-1, 0), LimpMirror.BAD);
        c.due("step(0, 6)", x.step(0, 6), LimpMirror.BAD);
        c.due("step(0, -1)", x.step(0, -1), LimpMirror.BAD);
        for (int i = 0; i < 40; i++) {
            c.due("step " + i, x.step(0, 5), 5);
        }
        c.due("the 41st", x.step(0, 5), LimpMirror.FULL);
        c.due("BAD ahead of FULL", x.step(0, 6), LimpMirror.BAD);
        c.due("deeds", x.count(2), 40);
    }

    private static void deed() {
        LimpMirror x = Checks.roomOf("h000000g0l1n34n12n12n13");
        Checks.steps(x, 0, 1, 5);
        Checks.steps(x, 1, 3);
        int[][] want = {{1, 0, 2, 1}, {5, 0, 5, LimpMirror.NONE}, {3, 1, 5, LimpMirror.NONE}};
        for (int d = 0; d < 3; d++) {
            for (int what = 0; what < 4; what++) {
                c.asked("deed(" + d + ", " + what + ")", x, x.deed(d, what), 1, want[d][what]);
            }
        }
        c.due("deed(3, 0)", x.deed(3, 0), LimpMirror.BAD);
        c.due("deed(-1, 0)", x.deed(-1, 0), LimpMirror.BAD);
        c.due("deed(0, 4)", x.deed(0, 4), LimpMirror.BAD);
        c.due("deed(0, -1)", x.deed(0, -1), LimpMirror.BAD);
    }

    private static void broken() {
        LimpMirror x = new LimpMirror();
        c.asked("no room", x, x.broken(), 0, LimpMirror.NONE);
        x = Checks.roomOf("h000000g0n12n12n33");
        c.asked("no deeds", x, x.broken(), 0, LimpMirror.NONE);
        Checks.steps(x, 0, 5, 3, 0, 1);
        c.asked("two", x, x.broken(), 2, 1);
        x.undo(0);
        Checks.steps(x, 0, 1, 0);
        c.asked("the very first", x, x.broken(), 1, 0);
    }

    private static void undo() {
        LimpMirror x = Checks.roomOf("h000000l1n10");
        c.due("nothing to undo", x.undo(0), 0);
        Checks.steps(x, 0, 1, 2, 3, 4);
        c.due("undo(5)", x.undo(5), LimpMirror.BAD);
        c.due("undo(-1)", x.undo(-1), LimpMirror.BAD);
        c.due("undo(4): none from there on", x.undo(4), 0);
        c.due("undo(1)", x.undo(1), 3);
        c.due("deeds", x.count(2), 1);
        c.due("a step goes on from there", x.step(0, 5), 2);
        c.due("undo(0)", x.undo(0), 2);
        c.due("none broken", x.count(3), 0);
    }

    private static void keepAndOn() {
        LimpMirror x = new LimpMirror();
        c.due("keep(3)", x.keep(3), LimpMirror.BAD);
        c.due("keep(-1)", x.keep(-1), LimpMirror.BAD);
        c.due("no glasses", x.keep(0), LimpMirror.STATE);
        c.due("on(3)", x.on(3), LimpMirror.BAD);
        c.due("on(-1)", x.on(-1), LimpMirror.BAD);
        c.found("on(0)", x, x.on(0), Checks.NOTHING);
        x = Checks.roomOf("h000000l1n34");
        c.due("keep none", x.keep(0), 0);
        Checks.steps(x, 0, 4, 3);
        c.due("keep two", x.keep(2), 2);
        c.due("kept", x.count(8), 2);
        long digest = x.digest();
        x.undo(0);
        Checks.steps(x, 0, 1, 1, 1);
        c.due("on(2)", x.on(2), 2);
        c.due("as it was kept", x.digest(), digest);
        c.asked("deed(1, 3)", x, x.deed(1, 3), 1, 0);
        c.due("goes on", x.step(0, 0), 3);
        c.due("on(2) again", x.on(2), 2);
        c.due("on(0)", x.on(0), 0);
        c.found("on(1)", x, x.on(1), Checks.NOTHING);
        Checks.steps(x, 0, 5);
        c.due("keep over", x.keep(2), 1);
        x.undo(0);
        Checks.steps(x, 0, 3);
        c.due("on what was kept over", x.on(2), 1);
        c.asked("deed(0, 0)", x, x.deed(0, 0), 1, 5);
        x.lots(20, 3);
        x.lots(19, 4);
        c.due("keep forty", x.keep(1), 40);
        digest = x.digest();
        x.undo(0);
        x.lots(20, 5);
        x.lots(20, 6);
        c.due("on forty", x.on(1), 40);
        c.due("forty as they were kept", x.digest(), digest);
    }
}
