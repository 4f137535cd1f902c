/** Promises 39 to 45: what is told. */
public final class ToldTest {
    private static final Checks c = new Checks();

    public static void main(String[] args) {
        before();
        asked();
        upperAndLower();
        count();
        findings();
        digestOfANewObject();
        digest();
        c.end();
    }

    private static void before() {
        LimpMirror x = new LimpMirror();
        c.due("asked()", x.asked(), 0);
        c.due("upper()", x.upper(), 0);
        c.due("lower()", x.lower(), 1);
        c.due("finding()", x.finding(), 0);
        for (int f = 1; f <= 5; f++) {
            c.due("findings(" + f + ")", x.findings(f), 0);
        }
    }

    private static void asked() {
        LimpMirror x = Checks.roomOf("h301254 g0 l2 t0 n12");
        Checks.fill(x, 0, "123");
        Checks.fill(x, 1, "450");
        Checks.fill(x, 2, 7);
        x.at(2, 0);
        c.due("told", x.asked(), 7);
        // none of these tells anything by asked(), be they refused, NONE or answered
        x.at(2, 1);
        x.lay(5, 0, 1);
        x.mean(5);
        x.glass(3, 0);
        x.deed(0, 0);
        x.breaks(0, 2);
        x.fit(0, 2);
        x.next(0, 2);
        x.he(0, 0, 2);
        x.keeps(0, 6);
        x.next(0, 1);
        x.show(0, 0, 3);
        x.alike(0, 0);
        x.ways(0, 0);
        x.first(0, 0, 3);
        x.can(0, 0, 0);
        x.laws(0, 1);
        x.still(0, 3);
        x.game(2);
        x.picks(2);
        x.odds(0, 0, 3);
        x.mid(0, 0, 3);
        x.step(0, 1);
        x.lots(2, 9);
        x.mark(1, 1);
        x.keep(0);
        x.on(0);
        x.undo(0);
        x.count(0);
        x.digest();
        x.copy(0, 0, 1, 0, 1);
        x.row(4, 2);
        x.tear(4);
        c.due("as it was", x.asked(), 7);
        x.breaks(2, 3);
        c.due("breaks: none", x.asked(), 0);
        x.broken();
        c.due("broken: none", x.asked(), LimpMirror.NONE);
    }

    private static void upperAndLower() {
        LimpMirror x = Checks.roomOf("h301254 g0 n12");
        Checks.fill(x, 0, "1");
        c.told("odds", x, x.odds(0, 0, 8), 2, 3);
        x.odds(0, 0, 13);
        x.mid(0, 4, 1);
        x.ways(4, 0);
        x.keeps(0, 7);
        x.still(0, 2);
        x.show(0, 0, 0);
        c.due("upper() as it was", x.upper(), 2);
        c.due("lower() as it was", x.lower(), 3);
        c.told("keeps", x, x.keeps(0, 1), 5, 1);
    }

    private static void count() {
        LimpMirror x = Checks.roomOf("h000000g0l0i0i1t0f0n12n11");
        Checks.steps(x, 0, 1, 1, 2);
        x.keep(0);
        x.keep(2);
        x.row(0, 3);
        x.row(1, 0);
        x.row(5, 1);
        x.text(3, 0);
        int[] want = {6, 2, 3, 2, 3, 2, 3, 2, 2};
        for (int what = 0; what <= 8; what++) {
            c.due("count(" + what + ")", x.count(what), want[what]);
        }
        c.due("a late one first", Checks.roomOf("h000000l0g0").count(4), 1);
        c.due("a thin one first", Checks.roomOf("h000000f0g0").count(5), 1);
        c.due("count(-1)", x.count(-1), LimpMirror.BAD);
        c.due("count(9)", x.count(9), LimpMirror.BAD);
    }

    private static void findings() {
        LimpMirror x = Checks.roomOf("h000000g0");
        x.row(0, 0);
        x.at(5, 0);
        x.at(5, 0);
        x.at(0, 0);
        x.mark(0, 1);
        x.mean(0);
        x.row(0, -1);
        x.row(0, -1);
        x.row(0, -1);
        x.row(0, 41);
        int[] want = {2, 1, 1, 1, 3};
        for (int f = 1; f <= 5; f++) {
            c.due("findings(" + f + ")", x.findings(f), want[f - 1]);
        }
        c.due("finding()", x.finding(), Checks.SIZE);
        x.at(0, 0);
        c.due("finding() later", x.finding(), Checks.BEYOND);
        c.due("findings(0)", x.findings(0), LimpMirror.BAD);
        c.due("findings(6)", x.findings(6), LimpMirror.BAD);
    }

    private static long hash(long h, int... values) {
        long all = h;
        for (int v : values) {
            all = 31 * all + v;
        }
        return all;
    }

    private static void digestOfANewObject() {
        long h = hash(17, 0, 0, 0, 0, 0, 0, 0, 0, 0);
        h = hash(h, 0, 0, 0, 0, 0, 0);
        h = hash(h, -1, -1, -1);
        h = hash(h, -1, -1, -1, -1, -1, -1);
        h = hash(h, -1, -1, -1, -1);
        c.due("digest()", new LimpMirror().digest(), h);
    }

    private static void digest() {
        LimpMirror x = Checks.roomOf("h301254g1i2n12n50");
        Checks.steps(x, 0, 1);
        x.keep(1);
        Checks.steps(x, 1, 5);
        Checks.fill(x, 1, -7, 9);
        x.row(3, 0);
        x.text(2, 2);
        x.put(2, 0, 255);
        x.text(0, 0);
        long h = hash(17, 2, 2, 2, 2, 1, 0, 2, 2, 1);
        h = hash(h, 3, 0, 1, 2, 5, 4);
        h = hash(h, 0, 1, 1, 1, 4, 2, 1, 1);
        h = hash(h, 1, 2, 5, 0);
        h = hash(h, 1, 0, 2, 0, 5, 1, 0, 1);
        h = hash(h, -1, 1, -1);
        h = hash(h, -1, 2, -7, 9, -1, 0, -1, -1);
        h = hash(h, 0, -1, 2, -1, 32, -1);
        x.glass(1, 0);
        c.due("digest()", x.digest(), h);
        c.due("digest() tells nothing by asked()", x.asked(), 4);
    }
}
