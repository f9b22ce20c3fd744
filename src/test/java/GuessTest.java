/** Promises 28 to 32: by where it was, in which lines. */
public final class GuessTest {
    private static final int NONE = MiceRegisters.NONE;
    private static final Checks c = new Checks("GuessTest");

    private interface Trace {
        int ask(MiceRegisters x, int i, int r);
    }

    public static void main(String[] args) {
        refused("28: places", (x, i, r) -> x.places(i, r));
        refused("29: kinds", (x, i, r) -> x.kinds(i, r));
        refused("30: look", (x, i, r) -> x.look(i, r));
        places();
        kinds();
        look();
        sets();
        sure();
        c.end();
    }

    private static void refused(String what, Trace trace) {
        MiceRegisters none = new MiceRegisters();
        c.due(what + ", no mice", trace.ask(none, 0, 0), -1);
        MiceRegisters x = Checks.with("rl540l540l540m11");
        c.due(what + ", mouse -1", trace.ask(x, -1, 0), -1);
        c.due(what + ", mouse 1", trace.ask(x, 1, 0), -1);
        c.due(what + ", row -1", trace.ask(x, 0, -1), -1);
        c.due(what + ", row 6", trace.ask(x, 0, 6), -1);
        c.found(what + ", missing", x, () -> trace.ask(x, 0, 5), 1);
        x.row(5, 0);
        c.found(what + ", of none", x, () -> trace.ask(x, 0, 5), 5);
        x.row(5, 11);
        x.lay(5, 0, 3);
        c.found(what + ", of 11", x, () -> trace.ask(x, 0, 5), 5);
        Checks.fill(x, 5, 1, 1, 3);
        c.found(what + ", no such line", x, () -> trace.ask(x, 0, 5), 3);
        Checks.fill(x, 5, 3, 1);
        c.found(what + ", no such line first", x, () -> trace.ask(x, 0, 5), 3);
        Checks.fill(x, 5, 1, -1);
        c.found(what + ", line -1", x, () -> trace.ask(x, 0, 5), 3);
        Checks.fill(x, 5, 1, 1, 1, 1, 1, 1, 1, 1, 1, 1);
        c.due(what + ", of 10", trace.ask(x, 0, 5) > 0 ? 1 : 0, 1);
    }

    private static void places() {
        MiceRegisters x = Checks.with("rl501l540l740m03m02");
        Checks.fill(x, 0, 2);
        c.due("28: from 1 or 2", x.places(0, 0), 6);
        Checks.fill(x, 0, 2, 2, 2);
        c.due("28: longer", x.places(0, 0), 6);
        Checks.fill(x, 0, 0, 2);
        c.due("28: from 0, since all else is nearer to 2", x.places(0, 0), 1);
        Checks.fill(x, 0, 2, 1);
        c.due("28: from nowhere", x.places(0, 0), 0);
        MiceRegisters y = Checks.with("rl501l501l501l501m03m02");
        // mouse 0 eats 2 up, the other one 0; then 1 and 3 are as near, and mouse 0 comes first
        Checks.fill(y, 1, 2, 1);
        c.due("28: mouse 0 goes ahead", y.places(0, 1), 4);
        c.due("28: mouse 1 finds it eaten up", y.places(1, 1), 0);
        Checks.fill(y, 1, 2, 3);
        c.due("28: mouse 0 has no need to", y.places(0, 1), 0);
        c.due("28: mouse 1 goes behind", y.places(1, 1), 4);
    }

    private static MiceRegisters apart(int letters) {
        MiceRegisters x = Checks.with("rl5" + letters / 10 + letters % 10 + "l140l140l740m01");
        x.cheese(1, 3);
        return x;
    }

    private static void kinds() {
        MiceRegisters x = apart(40);
        Checks.fill(x, 0, 0);
        c.due("29: stays: a mouse, old, hungry, white", x.kinds(0, 0), 1 + 4 + 8 + 16);
        Checks.fill(x, 0, 3);
        c.due("29: far: young", x.kinds(0, 0), 2);
        Checks.fill(x, 0, 1);
        c.due("29: to the cheese: greedy", x.kinds(0, 0), 32);
        Checks.fill(x, 0, 2);
        c.due("29: none", x.kinds(0, 0), 0);
        MiceRegisters y = apart(3);
        Checks.fill(y, 0, 0, 0, 3);
        c.due("29: gone on in the third: hungry", y.kinds(0, 0), 8);
        Checks.fill(y, 0, 0, 0, 0, 3);
        c.due("29: gone on in the fourth: a mouse, old, white", y.kinds(0, 0), 1 + 4 + 16);
    }

    private static void look() {
        MiceRegisters x = apart(3);
        Checks.fill(x, 0, 0);
        c.told("30: the third year", x, x.look(0, 0), 3, 3);
        MiceRegisters y = apart(40);
        Checks.fill(y, 0, 0);
        c.told("30: none of 20, so the first", y, y.look(0, 0), 1, 4);
        Checks.fill(y, 0, 3);
        c.told("30: one kind alone", y, y.look(0, 0), 1, 1);
        Checks.fill(y, 0, 2);
        y.lay(0, 0, 2);
        c.told("30: no kind", y, y.look(0, 0), NONE, 2);
        MiceRegisters z = Checks.with("rl540l540m09");
        Checks.fill(z, 0, 0);
        // 18 a year for hungry and greedy ones, 9 for three, 5 for a white one: it stays when the five others are away
        c.told("30: apart by teeth", z, z.look(0, 0), 4, 4);
        MiceRegisters late = Checks.with("rl540l540m02");
        Checks.fill(late, 0, 0);
        // 10 years for hungry and greedy ones, 20 for the others: behind the 11th these two are away
        c.told("30: late", late, late.look(0, 0), 11, 4);
        MiceRegisters last = Checks.with("rl538l540m01");
        Checks.fill(last, 0, 0);
        // 19 years for hungry and greedy ones: behind the 20th they are away
        c.told("30: in the last year", last, last.look(0, 0), 20, 4);
        MiceRegisters later = Checks.with("rl540l540m01");
        Checks.fill(later, 0, 0);
        // 20 years for hungry and greedy ones: not told apart behind the 20th, so all six are at one line
        c.told("30: too late", later, later.look(0, 0), 1, 6);
    }

    private static void sets() {
        MiceRegisters x = new MiceRegisters();
        c.due("31: no mice", x.sets(0), -4);
        c.due("31: sets(-1), BAD ahead", x.sets(-1), -1);
        c.due("31: sets(321), BAD ahead", x.sets(321), -1);
        x = Checks.with("rl505l503l502l504m05");
        setsAre(x, 0, 1, 0);
        setsAre(x, 5, 2, 1);
        setsAre(x, 7, 2, 5);
        setsAre(x, 9, 2, 9);
        setsAre(x, 14, 1, 15);
        setsAre(x, 13, 0, NONE);
        setsAre(x, 320, 0, NONE);
        x.year();
        setsAre(x, 0, 2, 0);
        setsAre(x, 9, 2, 14);
        MiceRegisters y = Checks.with("rl540l540l540l540l540l540l540l540m01");
        setsAre(y, 160, 70, 15);
        setsAre(y, 320, 1, 255);
    }

    private static void setsAre(MiceRegisters x, int v, int many, int first) {
        c.parts("31: sets(" + v + ")", x, x.sets(v), many, 1);
        c.due("31: sets(" + v + "), asked()", x.asked(), first);
    }

    private static void sure() {
        MiceRegisters x = new MiceRegisters();
        c.due("32: no mice", x.sure(0), -4);
        c.due("32: sure(-1), BAD ahead", x.sure(-1), -1);
        c.due("32: sure(321), BAD ahead", x.sure(321), -1);
        c.due("32: no finding", x.finding(), 0);
        x = Checks.with("rl505l503l502l540m05");
        c.told("32: sure(0)", x, x.sure(0), 0, 15);
        c.told("32: sure(5), 0 alone or 1 and 2", x, x.sure(5), 0, 8);
        c.told("32: sure(45)", x, x.sure(45), 8, 0);
        c.told("32: sure(7)", x, x.sure(7), 5, 10);
        c.told("32: sure(50)", x, x.sure(50), 15, 0);
        final MiceRegisters there = x;
        c.found("32: no set", x, () -> there.sure(4), 4);
        c.due("32: refused, asked() stays", x.asked(), 0);
        x.year();
        c.told("32: with one eaten up", x, x.sure(45), 14, 0);
        c.due("32: upper() is not told", x.upper(), 0);
        MiceRegisters y = Checks.with("rl540l540l540l540l540l540l540l540m01");
        c.told("32: sure(320)", y, y.sure(320), 255, 0);
    }
}
