/** Promises 28 to 32, sentence by sentence, at each edge and on both sides of it. */
public final class GuessEdgesTest {
    private static final int MIN = Integer.MIN_VALUE, MAX = Integer.MAX_VALUE, NONE = MiceRegisters.NONE;
    private static final int NOTHING = 1, UNLIKE = 3, NOUGHT = 4, SIZE = 5;
    private static final String EIGHT_OF_40 = "rl540l540l540l540l540l540l540l540m01";
    private static final Edges e = new Edges("GuessEdgesTest");

    private interface Trace {
        int ask(MiceRegisters x, int i, int r);
    }

    public static void main(String[] args) {
        places();
        refused((x, i, r) -> x.places(i, r));
        kinds();
        refused((x, i, r) -> x.kinds(i, r));
        look();
        lookAtNone();
        refused((x, i, r) -> x.look(i, r));
        sets();
        setsRefused();
        sure();
        sureRefused();
        e.end();
    }

    private static void refused(Trace trace) {
        MiceRegisters x = Checks.with("rl540l540l540m11m11");
        Checks.fill(x, 0, 1);
        e.says("BAD; NOTHING; SIZE; UNLIKE.");
        for (int i : new int[] {-1, 2, 4, MIN, MAX}) {
            e.bad("MOUSE " + i + " of two", x, () -> trace.ask(x, i, 0));
            e.bad("MOUSE " + i + " of two, ahead of NOTHING", x, () -> trace.ask(x, i, 5));
        }
        for (int r : new int[] {-1, 6, MIN, MAX}) {
            e.bad("ROW " + r, x, () -> trace.ask(x, 0, r));
        }
        MiceRegisters none = new MiceRegisters();
        Checks.fill(none, 0, 0);
        e.bad("no MICE", none, () -> trace.ask(none, 0, 0));
        e.found("missing", x, () -> trace.ask(x, 1, 5), NOTHING);
        x.row(5, 0);
        e.found("of 0 ints", x, () -> trace.ask(x, 1, 5), SIZE);
        Checks.fill(x, 5, 1, 1, 1, 1, 1, 1, 1, 1, 1, 1, 1);
        e.found("of 11 ints", x, () -> trace.ask(x, 1, 5), SIZE);
        x.lay(5, 0, 3);
        e.found("of 11 ints, ahead of UNLIKE", x, () -> trace.ask(x, 1, 5), SIZE);
        Checks.fill(x, 5, 1, 1, 1, 1, 1, 1, 1, 1, 1, 1);
        e.due("of 10 ints", trace.ask(x, 1, 5) > 0 ? 1 : 0, 1);
        x.lay(5, 1, 3);
        x.row(5, 1);
        e.due("of 1 int, where more stood", trace.ask(x, 1, 5) == MiceRegisters.FINDING ? 1 : 0, 0);
        Checks.fill(x, 5, 1, 1, 1, 1, 1, 1, 1, 1, 1, 1);
        for (int l : new int[] {-1, 3, NONE, MIN, MAX}) {
            for (int place : new int[] {0, 9}) {
                x.lay(5, place, l);
                e.found("LINE " + l + " at place " + place, x, () -> trace.ask(x, 1, 5), UNLIKE);
                x.lay(5, place, 1);
            }
        }
        for (int l : new int[] {0, 2}) {
            Checks.fill(x, 5, l);
            e.due("LINE " + l + " of three", trace.ask(x, 1, 5) == MiceRegisters.FINDING ? 1 : 0, 0);
        }
        x.tear(5);
        e.found("torn", x, () -> trace.ask(x, 1, 5), NOTHING);
    }

    private static void places() {
        e.promise(28);
        e.says("At which LINES (bits) it can be now by these, all else as it is.");
        MiceRegisters all = Checks.with("rl001l001l001l001l001l001l001l940y01");
        Checks.fill(all, 0, 7);
        e.still("a YOUNG one goes to LINE 7 from each", all, () -> all.places(0, 0), 255);
        Checks.fill(all, 0, 0);
        e.still("and nowhere else from any", all, () -> all.places(0, 0), 0);
        MiceRegisters stays = Checks.with("rl001l001m01");
        Checks.fill(stays, 0, 1, 1, 1, 1, 1, 1, 1, 1, 1, 1);
        e.still("it stays for 10 YEARS", stays, () -> stays.places(0, 0), 2);
        stays.lay(0, 9, 0);
        e.still("but for the 10th", stays, () -> stays.places(0, 0), 0);
        MiceRegisters tenth = Checks.with("rl509l540m11");
        Checks.fill(tenth, 0, 0, 0, 0, 0, 0, 0, 0, 0, 0, 1);
        e.still("gone on in the 10th", tenth, () -> tenth.places(0, 0), 1);
        tenth.lay(0, 9, 0);
        e.still("not gone on in the 10th", tenth, () -> tenth.places(0, 0), 0);
        MiceRegisters cat = Checks.with("rl540l540l001m11");
        cat.cat(1);
        Checks.fill(cat, 0, 0);
        e.still("from where it is, from the CAT, and from two away", cat, () -> cat.places(0, 0), 7);
        MiceRegisters other = Checks.with("rl901l905m01m01");
        // all else as it is: MOUSE 0 comes first, and eats LINE 0 up
        Checks.fill(other, 0, 1);
        e.still("the second one goes to LINE 1 from each", other, () -> other.places(1, 0), 3);
        Checks.fill(other, 0, 0);
        e.still("the second one comes too late", other, () -> other.places(1, 0), 0);
        e.still("the first one does not", other, () -> other.places(0, 0), 1);
    }

    private static void kinds() {
        e.promise(29);
        e.says("Of which KINDS (bits) it can be by these, all else as it is.");
        MiceRegisters stays = Checks.with("rl001l001m01");
        Checks.fill(stays, 0, 0, 0, 0, 0, 0, 0, 0, 0, 0, 0);
        e.still("all six stay", stays, () -> stays.kinds(0, 0), 63);
        stays.lay(0, 9, 1);
        e.still("none goes in the 10th", stays, () -> stays.kinds(0, 0), 0);
        MiceRegisters young = Checks.with("rl101l001l001l240m01");
        Checks.fill(young, 0, 3);
        e.still("a YOUNG one alone", young, () -> young.kinds(0, 0), 2);
        MiceRegisters old = Checks.with("rl301l001m11");
        Checks.fill(old, 0, 1);
        e.still("OLD ones leave it", old, () -> old.kinds(0, 0), 4 + 16);
        Checks.fill(old, 0, 0);
        e.still("the others don't", old, () -> old.kinds(0, 0), 1 + 2 + 8 + 32);
        MiceRegisters white = Checks.with("rl503l540m03");
        Checks.fill(white, 0, 0, 0);
        e.still("a WHITE one stays for 2 YEARS", white, () -> white.kinds(0, 0), 16);
        MiceRegisters greedy = Checks.with("rl540l040m01");
        greedy.cheese(1, 4);
        Checks.fill(greedy, 0, 1);
        e.still("a GREEDY one alone", greedy, () -> greedy.kinds(0, 0), 32);
        MiceRegisters tenth = Checks.with("rl518l540m02");
        Checks.fill(tenth, 0, 0, 0, 0, 0, 0, 0, 0, 0, 0, 1);
        e.still("gone on in the 10th: by 2 a YEAR", tenth, () -> tenth.kinds(0, 0), 1 + 2 + 4 + 16);
        tenth.lay(0, 9, 0);
        e.still("not gone on in the 10th", tenth, () -> tenth.kinds(0, 0), 0);
        e.due("its KIND stays", Checks.mouse(tenth, 0, 0), 0);
    }

    private static void look() {
        e.promise(30);
        e.says("Which YEAR (1 .. 20 from now on; the first) tells most of these KINDS apart by where it is behind it: "
                + "the greatest part that is at one LINE is least; that part by asked().");
        MiceRegisters one = Checks.with("rl101l001l001l240m01");
        Checks.fill(one, 0, 3);
        e.told("one KIND: the first, 1", one, one.look(0, 0), 1, 1);
        MiceRegisters alike = Checks.with("rl001l001m01");
        Checks.fill(alike, 0, 0);
        e.told("never told apart: the first, 6", alike, alike.look(0, 0), 1, 6);
        MiceRegisters last = Checks.with("rl538l540m01");
        Checks.fill(last, 0, 0);
        e.told("in the 20th two go on", last, last.look(0, 0), 20, 4);
        MiceRegisters late = Checks.with("rl540l540m01");
        Checks.fill(late, 0, 0);
        e.told("in the 21st: too late", late, late.look(0, 0), 1, 6);
        MiceRegisters soon = Checks.with("rl303l540m02");
        Checks.fill(soon, 0, 1);
        // to LINE 1 by 5 - 1 against 3, all six: behind 10 YEARS two have eaten it up, and go back
        e.told("two go back in the 11th", soon, soon.look(0, 0), 11, 4);
        MiceRegisters apart = Checks.with("rl540l040l540m01");
        apart.cheese(1, 4);
        Checks.fill(apart, 0, 0);
        e.told("from now on, not behind the ROW", apart, apart.look(0, 0), 1, 5);
        MiceRegisters three = Checks.with("rl304l440m02");
        Checks.fill(three, 0, 0);
        // LINE 0: WRONG by 3, LINE 1 by 4 and one away: OLD ones and YOUNG ones go at once, so MOUSE, HUNGRY, GREEDY stay
        e.told("three stay, two of them for one YEAR: MOUSE 2, others 1", three, three.look(0, 0), 2, 2);
    }

    private static void lookAtNone() {
        MiceRegisters x = Checks.with("rl101l001l001l240m01");
        e.says("NONE: there is no KIND.");
        Checks.fill(x, 0, 2);
        e.still("none goes to LINE 2", x, () -> x.look(0, 0), NONE);
        Checks.fill(x, 0, 3);
        e.due("one does go to LINE 3", x.look(0, 0), 1);
    }

    private static void sets() {
        e.promise(31);
        e.says("How many sets of LINES have v (0 .. 320) LETTERS left together, told by upper() (lower() is 1);");
        MiceRegisters x = Checks.with(EIGHT_OF_40);
        x.odds(0, 5);
        e.parts("0: the one without LINES", x, x.sets(0), 1, 1);
        x.odds(0, 5);
        e.parts("1", x, x.sets(1), 0, 1);
        e.parts("40: each", x, x.sets(40), 8, 1);
        e.parts("160: four of eight", x, x.sets(160), 70, 1);
        e.parts("319", x, x.sets(319), 0, 1);
        e.parts("320: all", x, x.sets(320), 1, 1);
        x.year();
        e.parts("320, one is eaten", x, x.sets(320), 0, 1);
        e.parts("319, one is eaten", x, x.sets(319), 1, 1);
        MiceRegisters y = Checks.with("rl901l901l901l901l901l901l901l901m01m01m01m01");
        y.year();
        y.year();
        e.parts("0, all are eaten up", y, y.sets(0), 256, 1);
        e.says("the first by asked() (bits; NONE): 1.");
        e.told("0, all are eaten up", y, y.sets(0), 1, 0);
        e.told("1, all are eaten up", y, y.sets(1), 1, NONE);
        MiceRegisters z = Checks.with(EIGHT_OF_40);
        e.told("0", z, z.sets(0), 1, 0);
        e.told("1", z, z.sets(1), 1, NONE);
        e.told("40", z, z.sets(40), 1, 1);
        e.told("80", z, z.sets(80), 1, 3);
        e.told("320", z, z.sets(320), 1, 255);
        MiceRegisters w = Checks.with("rl505l503l502l540m05");
        e.told("5: 0 alone ahead of 1 and 2", w, w.sets(5), 1, 1);
        e.told("40: the last alone", w, w.sets(40), 1, 8);
    }

    private static void setsRefused() {
        MiceRegisters x = Checks.with(EIGHT_OF_40);
        MiceRegisters none = new MiceRegisters();
        e.says("BAD;");
        for (int v : new int[] {-1, 321, MIN, MAX}) {
            e.bad("sets(" + v + ")", x, () -> x.sets(v));
        }
        e.says("STATE: no MICE.");
        e.state("sets(0)", none, () -> none.sets(0));
        e.state("sets(320)", none, () -> none.sets(320));
        e.bad("BAD is ahead, -1", none, () -> none.sets(-1));
        e.bad("BAD is ahead, 321", none, () -> none.sets(321));
    }

    private static void sure() {
        e.promise(32);
        e.says("LINES (bits) that are in each such set; those in none by asked().");
        MiceRegisters x = Checks.with(EIGHT_OF_40);
        e.told("0: none, all", x, x.sure(0), 0, 255);
        e.told("40: none, none", x, x.sure(40), 0, 0);
        e.told("320: all, none", x, x.sure(320), 255, 0);
        MiceRegisters y = Checks.with("rl505l503l502l540m05");
        e.told("2: LINE 2 alone", y, y.sure(2), 4, 11);
        e.told("45: LINE 3 surely", y, y.sure(45), 8, 0);
        e.told("40: LINE 3 alone", y, y.sure(40), 8, 7);
        y.year();
        e.told("40, LINE 0 is eaten up: in it or not", y, y.sure(40), 8, 6);
        e.told("0, LINE 0 is eaten up", y, y.sure(0), 0, 14);
    }

    private static void sureRefused() {
        MiceRegisters x = Checks.with(EIGHT_OF_40);
        MiceRegisters none = new MiceRegisters();
        e.says("BAD; STATE; NOUGHT: there is no set.");
        for (int v : new int[] {-1, 321, MIN, MAX}) {
            e.bad("sure(" + v + ")", x, () -> x.sure(v));
        }
        e.state("sure(0), no MICE", none, () -> none.sure(0));
        e.state("sure(320), no MICE", none, () -> none.sure(320));
        e.found("sure(1)", x, () -> x.sure(1), NOUGHT);
        e.found("sure(319)", x, () -> x.sure(319), NOUGHT);
        e.told("sure(320)", x, x.sure(320), 255, 0);
        x.year();
        e.found("sure(320), one is eaten", x, () -> x.sure(320), NOUGHT);
        e.says("(In this order.)");
        e.bad("BAD ahead of STATE", none, () -> none.sure(321));
        e.bad("BAD ahead of STATE, -1", none, () -> none.sure(-1));
        e.state("STATE ahead of NOUGHT", none, () -> none.sure(1));
    }
}
