/** Promises 33 to 36: by turns, chances, lots. */
public final class ChancesTest {
    private static final Checks c = new Checks("ChancesTest");

    public static void main(String[] args) {
        duel();
        duelAtMost20();
        odds();
        mid();
        lotsRefused();
        lots();
        lotsAtTheirEdges();
        c.end();
    }

    private static void duel() {
        MiceRegisters x = Checks.with("rl510l710m03");
        c.due("33: no lines", new MiceRegisters().duel(0, 1, 0), -1);
        c.due("33: duel(-1, 1, 0)", x.duel(-1, 1, 0), -1);
        c.due("33: duel(0, 2, 0)", x.duel(0, 2, 0), -1);
        c.due("33: duel(0, -1, 0)", x.duel(0, -1, 0), -1);
        c.due("33: duel(2, 0, 0)", x.duel(2, 0, 0), -1);
        c.due("33: the same", x.duel(1, 1, 0), -1);
        c.due("33: n -1", x.duel(0, 1, -1), -1);
        c.due("33: n 3", x.duel(0, 1, 3), -1);
        for (int n = 0; n <= 2; n++) {
            c.told("33: duel(0, 1, " + n + ")", x, x.duel(0, 1, n), 1, 3);
            c.told("33: duel(1, 0, " + n + ")", x, x.duel(1, 0, n), 1, -3);
        }
        MiceRegisters y = Checks.with("rl510l710l610m03");
        // 5, 6, 4: the other one would make it 6 at hand, so the first one lays on LINE 1
        c.told("33: a third line", y, y.duel(0, 1, 1), 1, 3);
        MiceRegisters z = Checks.with("rl110l510l510m13");
        // 0, 5, 4: whoever wants it away from LINE 1 lays on LINE 2, and 5 there are too few
        c.told("33: three lines, without turns", z, z.duel(0, 1, 0), 1, 3);
        c.told("33: three lines, a turn each", z, z.duel(0, 1, 1), 1, 3);
        c.told("33: three lines, the other side", z, z.duel(1, 0, 1), 1, -3);
        MiceRegisters v = Checks.with("rl110l510l610m13");
        // 0, 5, 5: one on LINE 2 draws it away, unless one comes on LINE 1, too
        c.told("33: the other one has the last word", v, v.duel(1, 0, 1), 1, -3);
        c.told("33: the first one lays in time", v, v.duel(0, 1, 1), 1, 3);
        // one turn: the first one's on LINE 1 would draw mouse 1 there, but the other one's on LINE 2 draws it back
        turns("rl510l410l610m04m12", -4, -4, -2);
        turns("rl110l010l210m04g12", -4, -4, 0);
        turns("rl810l710l710y01g21", -1, -1, 1);
        MiceRegisters w = Checks.with("rl510l510m03");
        w.cat(0);
        w.wax(1);
        c.told("33: cat and wax", w, w.duel(0, 1, 2), 1, 0);
    }

    private static void turns(String text, int... due) {
        MiceRegisters x = Checks.with(text);
        for (int n = 0; n < due.length; n++) {
            c.told("33: duel(0, 1, " + n + ") of " + text, x, x.duel(0, 1, n), 1, due[n]);
        }
    }

    /** The first one draws the mouse to LINE 0 by one CHEESE; the other one can't draw it back, there are 20. */
    private static void duelAtMost20() {
        MiceRegisters x = Checks.with("rl510l610m03");
        lay(x, 0, 19);
        lay(x, 1, 20);
        c.told("33: 19 and 20, none laid", x, x.duel(1, 0, 0), 1, -3);
        c.told("33: 19 and 20", x, x.duel(1, 0, 1), 1, 3);
        MiceRegisters y = Checks.with("rl510l610m03");
        lay(y, 0, 18);
        lay(y, 1, 19);
        c.told("33: 18 and 19", y, y.duel(1, 0, 1), 1, -3);
    }

    private static void lay(MiceRegisters x, int l, int cheese) {
        for (int rest = cheese; rest > 0; rest -= 9) {
            x.cheese(l, Math.min(9, rest));
        }
    }

    private static void odds() {
        MiceRegisters x = Checks.with("rl503l505m03m03");
        c.due("34: no lines", new MiceRegisters().odds(0, 1), -1);
        c.due("34: odds(-1, 1)", x.odds(-1, 1), -1);
        c.due("34: odds(2, 1)", x.odds(2, 1), -1);
        c.due("34: odds(0, -1)", x.odds(0, -1), -1);
        c.due("34: odds(0, 13)", x.odds(0, 13), -1);
        c.due("34: nothing told", x.lower(), 1);
        c.parts("34: both asleep", x, x.odds(0, 6), 1, 4);
        c.parts("34: not both awake", x, x.odds(1, 6), 3, 4);
        c.parts("34: both asleep, 4 of 12", x, x.odds(0, 4), 1, 9);
        c.parts("34: both asleep, 5 of 12", x, x.odds(0, 5), 25, 144);
        c.parts("34: none asleep", x, x.odds(0, 0), 0, 1);
        c.parts("34: all asleep", x, x.odds(0, 12), 1, 1);
        MiceRegisters y = Checks.with("rl540m01m01m01m01");
        c.parts("34: four asleep", y, y.odds(0, 1), 1, 20736);
        MiceRegisters z = Checks.with("rl040l540m13");
        c.parts("34: not wanted", z, z.odds(0, 5), 1, 1);
        c.parts("34: one mouse", z, z.odds(1, 5), 5, 12);
        z.cat(1);
        c.parts("34: the cat", z, z.odds(1, 5), 1, 1);
        c.due("34: asked() is not told", z.asked(), 0);
    }

    private static void mid() {
        MiceRegisters x = new MiceRegisters();
        c.due("35: no mice", x.mid(0), -4);
        c.due("35: mid(-1), BAD ahead", x.mid(-1), -1);
        c.due("35: mid(13), BAD ahead", x.mid(13), -1);
        x = Checks.with("rl503l505m03m03");
        c.parts("35: mid(0)", x, x.mid(0), 2, 1);
        c.parts("35: mid(6)", x, x.mid(6), 5, 1);
        c.parts("35: mid(5)", x, x.mid(5), 9, 2);
        c.parts("35: mid(12)", x, x.mid(12), 8, 1);
        MiceRegisters y = Checks.with("rl504m03m03");
        // awake both: 0 left; one: 1; none: 4; by 1 of 12 asleep: (0 * 121 + 1 * 22 + 4 * 1) of 144
        c.parts("35: at most what is left", y, y.mid(1), 13, 72);
        y.year();
        c.parts("35: nothing left", y, y.mid(5), 0, 1);
    }

    private static void lotsRefused() {
        MiceRegisters x = new MiceRegisters();
        c.due("36: no mice", x.lots(1, 1), -4);
        c.due("36: n 0, BAD ahead", x.lots(0, 1), -1);
        x = Checks.with("rl540m01");
        c.due("36: n 21", x.lots(21, 1), -1);
        c.due("36: seed 0", x.lots(1, 0), -1);
        c.due("36: seed -1", x.lots(1, -1), -1);
        c.due("36: seed MAX", x.lots(1, 2147483647), -1);
        c.due("36: nothing done", x.count(3), 0);
        x.lots(1, 2147483646);
        c.due("36: done", x.count(3), 1);
        x.lots(20, 3);
        c.due("36: 41 would be", x.lots(20, 3), -2);
        c.due("36: 21 are", x.count(3), 21);
        x.lots(19, 3);
        c.due("36: 40 are", x.count(3), 40);
        c.due("36: FULL", x.lots(1, 3), -2);
        c.due("36: BAD ahead of FULL", x.lots(1, 0), -1);
    }

    /** 48271: 5 of CHEESE on LINE 1. 182605794: a YEAR. 1291394886: 1 of CHEESE on LINE 0. */
    private static void lots() {
        MiceRegisters x = Checks.with("rl510l510m03");
        c.due("36: lots(3, 1)", x.lots(3, 1), 17);
        c.due("36: three deeds", x.count(3), 3);
        c.due("36: a year", x.count(2), 1);
        c.due("36: cheese on 0", Checks.line(x, 0, 3), 1);
        c.due("36: cheese on 1", Checks.line(x, 1, 3), 4);
        c.due("36: the mouse", Checks.mouse(x, 0, 1), 1);
        c.due("36: undone", x.undo(1), 2);
        c.due("36: cheese alone", Checks.line(x, 1, 3), 5);
        MiceRegisters y = Checks.with("rl510l510m03");
        y.lots(1, 1);
        y.lots(2, 48271);
        c.due("36: seeds go on", Checks.line(y, 0, 3) * 100 + Checks.line(y, 1, 3), 104);
    }

    /** Whatever is done already is a DEED all the same: CHEESE above 20, the CAT where it is. */
    private static void lotsAtTheirEdges() {
        boolean catAgain = false;
        boolean cheeseCut = false;
        for (int seed = 1; seed < 4000 && !(catAgain && cheeseCut); seed++) {
            long lot = seed * 48271L % 2147483647L;
            int deed = (int) (lot / 8 % 8);
            if (deed == 2) {
                catAgain = true;
                MiceRegisters x = Checks.with("rl540m01");
                x.cat(0);
                c.due("36: the cat again", x.lots(1, seed), 40);
                c.due("36: a deed", x.count(3), 2);
                c.due("36: where", x.count(7), 0);
            }
            if (deed <= 1 && lot / 64 % 5 == 4) {
                cheeseCut = true;
                MiceRegisters x = Checks.with("rl540m01");
                lay(x, 0, 18);
                x.lots(1, seed);
                c.due("36: 20 at most", Checks.line(x, 0, 3), 20);
                c.due("36: three deeds there", x.count(3), 3);
                x.lots(1, seed);
                c.due("36: still 20", Checks.line(x, 0, 3), 20);
                c.due("36: four deeds", x.count(3), 4);
                x.undo(2);
                c.due("36: 18 again", Checks.line(x, 0, 3), 18);
            }
        }
        c.due("36: both were met", catAgain && cheeseCut ? 1 : 0, 1);
    }
}
