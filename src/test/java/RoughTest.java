import java.lang.management.ManagementFactory;
import java.util.Random;

/**
 * Wild calls by a fixed seed: none may throw, what is refused changes nothing but finding() and
 * findings(), every answer of the room's state stays within its bounds, and no call makes objects
 * (all calls of a run share one room of memory).
 */
public final class RoughTest {
    private static final Checks c = new Checks();
    private static final int[] EDGES = {Integer.MIN_VALUE, Integer.MAX_VALUE, -9, -1, 6, 7, 12, 13, 40, 41, 60, 61};

    private static final int CALLS = 25;

    private final Random random;
    private final LimpMirror x = new LimpMirror();

    private RoughTest(long seed) {
        random = new Random(seed);
        if (random.nextInt(8) > 0) {
            Checks.write(x, 0, "h0" + random.nextInt(6) + "34" + random.nextInt(6) + "0 g1 l" + random.nextInt(4)
                    + "t0o2i" + random.nextInt(4) + "f0 n12 n00 n" + random.nextInt(6) + "0");
            x.room(0);
            x.lots(20, 1 + random.nextInt(1000));
        }
        for (int r = 0; r < 3; r++) {
            Checks.fill(x, r, Integer.toString(random.nextInt(216), 6));
        }
    }

    public static void main(String[] args) {
        for (int seed = 1; seed <= 5000; seed++) {
            new RoughTest(seed).run();
        }
        madeNothing();
        c.end();
    }

    private int number(int below) {
        int kind = random.nextInt(24);
        if (kind == 0) {
            return random.nextInt();
        }
        return kind == 1 ? EDGES[random.nextInt(EDGES.length)] : random.nextInt(below + 1) - (kind == 2 ? 1 : 0);
    }

    /** Few enough calls that an object is not used for more than 512 in all. */
    private void run() {
        for (int i = 0; i < CALLS; i++) {
            long digest = x.digest();
            int asked = x.asked();
            int findings = findings();
            int which = random.nextInt(36);
            int got = call(which);
            if (got < 0) {
                c.due("digest() behind refused call " + which, x.digest(), digest);
                // of the answers below 0 only the NONE of breaks (22) tells anything
                c.due("asked() behind refused call " + which, x.asked(), got == -9 && which == 22 ? 0 : asked);
            }
            c.due("findings behind call " + which, findings(), findings + (got == LimpMirror.FINDING ? 1 : 0));
        }
        bounds();
    }

    private int findings() {
        int all = 0;
        for (int f = 1; f <= 5; f++) {
            all += x.findings(f);
        }
        return all;
    }

    private void bounds() {
        if (x.count(2) > 40 || x.count(3) > x.count(2) || x.lower() < 1 || x.upper() < 0) {
            c.due("bounds", 0, 1);
        }
    }

    private int row() {
        return number(6) % 4;
    }

    private int call(int which) {
        switch (which) {
            case 0: return x.row(row(), number(14));
            case 1: return x.lay(row(), number(6), number(6));
            case 2: return x.at(row(), number(6));
            case 3: return random.nextInt(4) == 0 ? x.tear(row()) : 0;
            case 4: return x.copy(row(), number(4), row(), number(4), number(4));
            case 5: return x.mean(row());
            case 6: return random.nextInt(4) == 0 ? x.text(number(4), number(60)) : 0;
            case 7: return x.put(1 + number(3), number(60), number(128));
            case 8: return x.fault(number(4));
            case 9: return random.nextInt(8) == 0 ? x.room(number(4)) : 0;
            case 10: return x.glass(number(6), number(4));
            case 11: return x.mark(number(6), number(6));
            case 12: return x.habit(number(6));
            case 13: return x.term(number(3), number(2));
            case 14: return x.step(number(6), number(6));
            case 15: return x.deed(number(40), number(4));
            case 16: return x.broken();
            case 17: return random.nextInt(4) == 0 ? x.undo(number(40)) : 0;
            case 18: return x.keep(number(3));
            case 19: return x.on(number(3));
            case 20: return x.lots(number(20), number(1000));
            case 21: return x.show(number(6), row(), row());
            case 22: return x.breaks(number(6), row());
            case 23: return x.alike(number(6), row());
            case 24: return x.fit(row(), row());
            case 25: return x.ways(number(6), row());
            case 26: return x.first(number(6), row(), row());
            case 27: return x.can(number(6), row(), number(6));
            case 28: return x.laws(row(), row());
            case 29: return x.next(row(), row());
            case 30: return x.he(number(6), row(), row());
            case 31: return x.keeps(number(6), number(5));
            case 32: return x.still(number(6), number(5));
            case 33: return random.nextBoolean() ? x.game(number(3)) : x.picks(number(3));
            case 34: return random.nextBoolean() ? x.odds(number(6), row(), number(12)) : x.mid(number(6), row(), number(12));
            default: return random.nextBoolean() ? x.count(number(9)) : x.findings(number(5));
        }
    }

    private static void madeNothing() {
        com.sun.management.ThreadMXBean threads =
                (com.sun.management.ThreadMXBean) ManagementFactory.getThreadMXBean();
        long thread = Thread.currentThread().getId();
        RoughTest[] warm = someOf(1);
        RoughTest[] cold = someOf(1 + warm.length);
        callAll(warm);
        long before = threads.getThreadAllocatedBytes(thread);
        callAll(cold);
        long made = threads.getThreadAllocatedBytes(thread) - before;
        c.due("20000 calls make no objects to speak of", made < 20000 ? 0 : made, 0);
    }

    private static RoughTest[] someOf(int seed) {
        RoughTest[] some = new RoughTest[50];
        for (int i = 0; i < some.length; i++) {
            some[i] = new RoughTest(seed + i);
        }
        return some;
    }

    private static void callAll(RoughTest[] some) {
        for (RoughTest rough : some) {
            for (int i = 0; i < 200; i++) {
                rough.call(i % 36);
                rough.x.digest();
            }
        }
    }
}
