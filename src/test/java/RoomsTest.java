/** Promises 10 to 15: what a text says of a room, and what stands in the room. */
public final class RoomsTest {
    private static final Checks c = new Checks();

    public static void main(String[] args) {
        noFault();
        faultOfHabits();
        faultOfGlasses();
        faultOfTerms();
        room();
        glass();
        markLate();
        markThin();
        markThought();
        markLimp();
        markFriend();
        markRefused();
        habit();
        term();
        c.end();
    }

    private static void fault(String text, int want) {
        LimpMirror x = new LimpMirror();
        Checks.write(x, 2, text);
        c.due("fault of \"" + text + "\"", x.fault(2), want);
        c.due("room of \"" + text + "\"", x.room(2) >= 1 ? 1 : 0, want == LimpMirror.NONE ? 1 : 0);
    }

    private static void noFault() {
        fault("h012345g0", LimpMirror.NONE);
        fault("  h555555  g3   ", LimpMirror.NONE);
        fault("h000000g0l1t2o3i0f1", LimpMirror.NONE);
        fault("h000000g0n00n01n02n03n04n05n10n11", LimpMirror.NONE);
        fault(" h000000 f3 i3 o3 t3 l3 g3 n55 n54 n53 n52 n51 n50 n45 n44  ", LimpMirror.NONE);
    }

    private static void faultOfHabits() {
        fault("", 0);
        fault("    ", 4);
        fault("g0", 0);
        fault("  H", 2);
        fault("h", 1);
        fault("h01", 3);
        fault("h012346g0", 6);
        fault("h 12345g0", 1);
        fault("h01234 g0", 6);
        fault("h0123/5g0", 5);
        fault("h0123450g0", 7);
    }

    private static void faultOfGlasses() {
        fault("h000000", 7);
        fault("h000000  ", 9);
        fault("h000000g", 8);
        fault("h000000g4", 8);
        fault("h000000g 0", 8);
        fault("h000000g00", 9);
        fault("h000000 g0 x0", 11);
        fault("h000000 g0 h000000", 11);
        fault("h000000 G0", 8);
        fault("h000000g0g0g0g0g0g0g0", 19);
        fault("h000000g0g0g0g0g0g0 g", 20);
    }

    private static void faultOfTerms() {
        fault("h000000n00g0", 7);
        fault("h000000g0n", 10);
        fault("h000000g0n0", 11);
        fault("h000000g0n06", 11);
        fault("h000000g0n60", 10);
        fault("h000000g0n 00", 10);
        fault("h000000g0n0 0", 11);
        fault("h000000g0n000", 12);
        fault("h000000g0n00g0", 12);
        fault("h000000g0n00n00n00n00n00n00n00n00n00", 33);
        fault("h000000g0n00n00n00n00n00n00n00n00 g0", 34);
        LimpMirror x = new LimpMirror();
        c.due("fault(-1)", x.fault(-1), LimpMirror.BAD);
        c.due("fault(4)", x.fault(4), LimpMirror.BAD);
        c.found("fault(3)", x, x.fault(3), Checks.NOTHING);
        Checks.write(x, 3, "h000000g0");
        x.put(3, 8, 48 + 256);
        c.due("a figure that was cut", x.fault(3), LimpMirror.NONE);
        x.put(3, 8, 48 + 128);
        c.due("a byte below 0", x.fault(3), 8);
    }

    private static void room() {
        LimpMirror x = new LimpMirror();
        c.due("room(4)", x.room(4), LimpMirror.BAD);
        c.due("room(-1)", x.room(-1), LimpMirror.BAD);
        c.found("room(0)", x, x.room(0), Checks.NOTHING);
        Checks.write(x, 0, "h123450g1t2n12");
        Checks.write(x, 1, "h000000g0n1");
        c.due("room of a fault", x.room(1), LimpMirror.STATE);
        c.due("finding() as it was", x.finding(), Checks.NOTHING);
        c.due("no glasses yet", x.count(0), 0);
        c.due("room(0)", x.room(0), 2);
        x.step(0, 1);
        x.keep(0);
        x.keep(1);
        x.keep(2);
        x.row(0, 2);
        c.due("room of a fault again", x.room(1), LimpMirror.STATE);
        c.due("fault(1)", x.fault(1), 11);
        c.due("glasses as they were", x.count(0), 2);
        c.due("habit as it was", x.habit(0), 1);
        c.due("terms as they were", x.count(1), 1);
        c.due("deeds as they were", x.count(2), 1);
        c.due("kept as it was", x.count(8), 3);
        Checks.write(x, 1, "h543210l3");
        c.due("room(1)", x.room(1), 1);
        c.due("no terms", x.count(1), 0);
        c.due("no deeds", x.count(2), 0);
        c.due("none kept", x.count(8), 0);
        c.found("on(1)", x, x.on(1), Checks.NOTHING);
        c.due("rows stay", x.count(6), 1);
        c.due("habit(0)", x.habit(0), 5);
        c.asked("glass(0, 0)", x, x.glass(0, 0), 1, 1);
        c.asked("glass(0, 1)", x, x.glass(0, 1), 1, 3);
        c.due("room(1) anew", x.room(1), 1);
    }

    private static void glass() {
        LimpMirror x = Checks.roomOf("h000000 g3 l2 t1 o0 i3 f2 n12 n11");
        for (int k = 0; k < 6; k++) {
            c.asked("kind of " + k, x, x.glass(k, 0), 1, k);
        }
        c.asked("delay of 0", x, x.glass(0, 1), 1, 3);
        c.asked("delay of 4", x, x.glass(4, 1), 1, 3);
        Checks.steps(x, 0, 1, 2, 1);
        Checks.steps(x, 3, 1);
        c.asked("deeds before 0", x, x.glass(0, 2), 1, 3);
        c.asked("broken before 0", x, x.glass(0, 3), 1, 2);
        c.asked("deeds before 3", x, x.glass(3, 2), 1, 1);
        c.asked("broken before 3", x, x.glass(3, 3), 1, 0);
        c.asked("deeds before 1", x, x.glass(1, 2), 1, 0);
        c.due("glass(6, 0)", x.glass(6, 0), LimpMirror.BAD);
        c.due("glass(-1, 0)", x.glass(-1, 0), LimpMirror.BAD);
        c.due("glass(0, 4)", x.glass(0, 4), LimpMirror.BAD);
        c.due("glass(0, -1)", x.glass(0, -1), LimpMirror.BAD);
    }

    private static void markLate() {
        LimpMirror x = Checks.roomOf("h000000 l0 l1 l3 i0 i1 g0");
        c.due("delay 0", x.mark(0, 1), LimpMirror.NONE);
        c.due("delay 1, no deeds", x.mark(1, 1), 0);
        c.due("limp's delay 0", x.mark(3, 1), LimpMirror.NONE);
        Checks.steps(x, 5, 1, 4);
        c.due("delay 1", x.mark(1, 1), 4);
        c.due("delay 3, none so early", x.mark(2, 1), 0);
        c.due("a limp of delay 0 where it limps", x.mark(3, 1), LimpMirror.NONE);
        c.due("a limp of delay 1 where it limps", x.mark(4, 1), 0);
        Checks.steps(x, 5, 2);
        c.due("delay 1, mirrored", x.mark(1, 1), 1);
        c.due("delay 3, mirrored", x.mark(2, 1), 2);
        c.due("a limp of delay 1", x.mark(4, 1), 1);
        c.due("mark tells, does nothing", x.count(2), 3);
    }

    private static void markThin() {
        LimpMirror x = Checks.roomOf("h300000 t0 f0 g0");
        c.due("no deeds", x.mark(0, 2), 0);
        Checks.steps(x, 2, 0, 0, 1, 1);
        Checks.steps(x, 0, 2);
        c.due("thin: places 0, 1, 3", x.mark(0, 2), 3);
        c.due("friend: places 0, 3", x.mark(1, 2), 2);
    }

    private static void markThought() {
        c.due("two steps", Checks.roomOf("h012300o2").mark(0, 3), 3);
        c.due("no step", Checks.roomOf("h123451o0").mark(0, 3), 0);
        c.due("all steps", Checks.roomOf("h000000o0").mark(0, 3), 6);
    }

    private static void markLimp() {
        LimpMirror x = Checks.roomOf("h000000i2g0");
        for (int deeds = 0; deeds < 7; deeds++) {
            c.due("limps after " + deeds, x.mark(0, 4), (2 - deeds % 3));
            x.step(1, 1);
        }
    }

    private static void markFriend() {
        LimpMirror x = Checks.roomOf("h200000f0g0");
        c.due("even", x.mark(0, 5), 0);
        x.step(1, 5);
        c.due("odd, mirrored", x.mark(0, 5), 1);
        x.step(1, 5);
        c.due("even again", x.mark(0, 5), 0);
    }

    private static void markRefused() {
        LimpMirror x = Checks.roomOf("h000000g0l1t0o0i1f0");
        // kinds by glasses: which marks a glass of each kind tells
        boolean[][] tells = {
            {false, false, false, false, false},
            {true, false, false, false, false},
            {false, true, false, false, false},
            {false, false, true, false, false},
            {true, false, false, true, false},
            {false, true, false, false, true},
        };
        for (int k = 0; k < 6; k++) {
            for (int kind = 1; kind <= 5; kind++) {
                int got = x.mark(k, kind);
                c.due("mark(" + k + ", " + kind + ")", got == LimpMirror.FINDING ? 0 : 1,
                        tells[k][kind - 1] ? 1 : 0);
            }
        }
        c.found("mark(0, 1)", x, x.mark(0, 1), Checks.UNLIKE);
        c.due("mark(0, 0)", x.mark(0, 0), LimpMirror.BAD);
        c.due("mark(0, 6)", x.mark(0, 6), LimpMirror.BAD);
        c.due("mark(0, -1)", x.mark(0, -1), LimpMirror.BAD);
        c.due("mark(6, 1)", x.mark(6, 1), LimpMirror.BAD);
        c.due("mark(-1, 1)", x.mark(-1, 1), LimpMirror.BAD);
    }

    private static void habit() {
        LimpMirror x = Checks.roomOf("h543201g0");
        int[] want = {5, 4, 3, 2, 0, 1};
        for (int step = 0; step <= 5; step++) {
            c.due("habit(" + step + ")", x.habit(step), want[step]);
        }
        c.due("habit(-1)", x.habit(-1), LimpMirror.BAD);
        c.due("habit(6)", x.habit(6), LimpMirror.BAD);
    }

    private static void term() {
        LimpMirror x = Checks.roomOf("h000000g0n12n50");
        c.due("term(0, 0)", x.term(0, 0), 1);
        c.due("term(0, 1)", x.term(0, 1), 2);
        c.due("term(1, 0)", x.term(1, 0), 5);
        c.due("term(1, 1)", x.term(1, 1), 0);
        c.due("term(2, 0)", x.term(2, 0), LimpMirror.BAD);
        c.due("term(-1, 0)", x.term(-1, 0), LimpMirror.BAD);
        c.due("term(0, 2)", x.term(0, 2), LimpMirror.BAD);
        c.due("term(0, -1)", x.term(0, -1), LimpMirror.BAD);
    }
}
