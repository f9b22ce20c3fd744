/** Promises 22 to 27: what comes, and what saves. */
public final class ComingTest {
    private static final int NONE = MiceRegisters.NONE;
    private static final Checks c = new Checks("ComingTest");

    public static void main(String[] args) {
        likes();
        left();
        eaten();
        when();
        save();
        saveWithCheeseThere();
        guard();
        asideOnly();
        c.end();
    }

    private static void likes() {
        MiceRegisters x = Checks.with("rl520m01y01o01h01");
        MiceRegisters y = Checks.with("rl520w01g01");
        c.due("22: likes(-1, ..)", x.likes(-1, 0, 0, 0), -1);
        c.due("22: likes(4, ..)", x.likes(4, 0, 0, 0), -1);
        c.due("22: w -1", x.likes(0, -1, 0, 0), -1);
        c.due("22: w 10", x.likes(0, 10, 0, 0), -1);
        c.due("22: cheese -1", x.likes(0, 0, -1, 0), -1);
        c.due("22: cheese 21", x.likes(0, 0, 21, 0), -1);
        c.due("22: far -1", x.likes(0, 0, 0, -1), -1);
        c.due("22: far 8", x.likes(0, 0, 0, 8), -1);
        c.due("22: no mice", new MiceRegisters().likes(0, 0, 0, 0), -1);
        c.told("22: a mouse", x, x.likes(0, 9, 20, 7), 1, 22);
        c.told("22: a mouse, below 0", x, x.likes(0, 0, 0, 7), 1, -7);
        c.told("22: a young one", x, x.likes(1, 9, 20, 7), 1, 29);
        c.told("22: a young one, 0", x, x.likes(1, 0, 0, 7), 1, 0);
        c.told("22: an old one, 4", x, x.likes(2, 4, 3, 2), 1, 5);
        c.told("22: an old one, 3", x, x.likes(2, 3, 3, 2), 1, 1);
        c.told("22: an old one, below 0", x, x.likes(2, 3, 0, 2), 1, -2);
        c.told("22: a hungry one", x, x.likes(3, 3, 3, 2), 1, 4);
        c.told("22: a white one, 4", y, y.likes(0, 4, 3, 2), 1, 5);
        c.told("22: a white one, 3", y, y.likes(0, 3, 3, 2), 1, 1);
        c.told("22: a greedy one", y, y.likes(1, 3, 20, 7), 1, 36);
    }

    private static void left() {
        MiceRegisters x = Checks.with("rl507l220m03");
        c.due("23: left(-1, 0)", x.left(-1, 0), -1);
        c.due("23: left(2, 0)", x.left(2, 0), -1);
        c.due("23: left(0, -1)", x.left(0, -1), -1);
        c.due("23: left(0, 41)", x.left(0, 41), -1);
        int[] first = {7, 4, 1, 0, 0};
        int[] second = {20, 20, 20, 20, 17};
        for (int n = 0; n < first.length; n++) {
            c.due("23: left(0, " + n + ")", x.left(0, n), first[n]);
            c.due("23: left(1, " + n + ")", x.left(1, n), second[n]);
        }
        c.due("23: left(1, 9)", x.left(1, 9), 2);
        c.due("23: left(1, 40)", x.left(1, 40), 0);
        x.cheese(1, 9);
        c.due("23: with cheese", x.left(0, 4), 7);
        c.due("23: the cheese gets less", x.left(1, 7), 0);
        c.due("23: and then the other", x.left(0, 8), 4);
    }

    private static void eaten() {
        MiceRegisters x = new MiceRegisters();
        c.due("24: eaten(0), no mice", x.eaten(0), -4);
        c.due("24: eaten(-1), BAD ahead", x.eaten(-1), -1);
        c.due("24: eaten(41), BAD ahead", x.eaten(41), -1);
        x = Checks.with("rl507l220l010m03");
        int[] due = {0, 0, 0, 1, 1, 1, 1, 1, 1, 1, 3, 3};
        for (int n = 0; n < due.length; n++) {
            c.due("24: eaten(" + n + ")", x.eaten(n), due[n]);
        }
        c.due("24: eaten(40)", x.eaten(40), 3);
    }

    private static void when() {
        MiceRegisters x = Checks.with("rl507l220l010m03");
        c.due("25: when(-1)", x.when(-1), -1);
        c.due("25: when(3)", x.when(3), -1);
        c.due("25: no lines", new MiceRegisters().when(0), -1);
        c.due("25: when(0)", x.when(0), 3);
        c.due("25: when(1)", x.when(1), 10);
        c.due("25: never", x.when(2), NONE);
        for (int y = 0; y < 3; y++) {
            x.year();
        }
        c.due("25: it is", x.when(0), 0);
        c.due("25: from now on", x.when(1), 7);
        MiceRegisters y = Checks.with("rl540l501m01");
        c.due("25: in the 40th", y.when(0), 40);
        c.due("25: in the 41st", y.when(1), NONE);
    }

    private static void save() {
        MiceRegisters x = Checks.with("rl502l104m03");
        c.due("26: save(-1, 1)", x.save(-1, 1), -1);
        c.due("26: save(2, 1)", x.save(2, 1), -1);
        c.due("26: save(0, 0)", x.save(0, 0), -1);
        c.due("26: save(0, 21)", x.save(0, 21), -1);
        c.due("26: no lines", new MiceRegisters().save(0, 1), -1);
        c.told("26: save(0, 1)", x, x.save(0, 1), 6, 1);
        c.told("26: save(1, 1), none is needed", x, x.save(1, 1), 0, NONE);
        c.told("26: save(0, 2)", x, x.save(0, 2), 6, 1);
        x.likes(0, 8, 0, 0);
        c.told("26: save(0, 3), no such", x, x.save(0, 3), NONE, 8);
        MiceRegisters y = Checks.with("rl140l502l140m11");
        c.told("26: of like ones the first", y, y.save(1, 2), 6, 0);
        MiceRegisters z = Checks.with("rl040l502l140m11");
        c.told("26: the least ahead of the first", z, z.save(1, 2), 6, 2);
        MiceRegisters just = Checks.with("rl502l740m03");
        c.told("26: just not needed", just, just.save(0, 1), 0, NONE);
        MiceRegisters one = Checks.with("rl502l640m03");
        c.told("26: just one", one, one.save(0, 1), 1, 1);
        MiceRegisters far = Checks.with("rl140l940m11");
        c.told("26: save(0, 20)", far, far.save(0, 20), 0, NONE);
        MiceRegisters gone = Checks.with("rl501l540m01");
        gone.year();
        c.due("26: eaten up", gone.save(0, 1), NONE);
    }

    /** A young one stays at LINE 1 for n YEARS with n + 7 of CHEESE there: so 20 last for 13. */
    private static void saveWithCheeseThere() {
        MiceRegisters x = Checks.with("rl901l140y01");
        c.told("26: one year", x, x.save(0, 1), 9, 1);
        c.told("26: two years", x, x.save(0, 2), 9, 1);
        c.told("26: three years", x, x.save(0, 3), 10, 1);
        c.told("26: 13 years", x, x.save(0, 13), 20, 1);
        c.told("26: 14 years", x, x.save(0, 14), NONE, 1);
        x.cheese(1, 5);
        c.told("26: 13 years, 5 there", x, x.save(0, 13), 15, 1);
        c.told("26: 14 years, 5 there", x, x.save(0, 14), NONE, 1);
    }

    private static void guard() {
        MiceRegisters x = new MiceRegisters();
        c.due("27: guard(0), BAD ahead", x.guard(0), -1);
        c.due("27: guard(21), BAD ahead", x.guard(21), -1);
        c.due("27: no mice", x.guard(1), -4);
        x = Checks.with("rl305l909m05");
        for (int times = 0; times < 2; times++) {
            c.told("27: guard(1), of like ones the first", x, x.guard(1), 0, 9);
            c.told("27: guard(2)", x, x.guard(2), 1, 9);
            c.told("27: guard(20)", x, x.guard(20), 1, 9);
            x.cat(1);
        }
        c.due("27: the cat stays", x.count(7), 1);
        MiceRegisters y = Checks.with("rl001m01");
        c.told("27: nothing is eaten", y, y.guard(3), 0, 1);
        y.cheese(0, 9);
        y.year();
        c.told("27: all is eaten up", y, y.guard(3), 0, 0);
    }

    private static void asideOnly() {
        MiceRegisters x = Checks.with("rl305l909l120m05y03o23g11");
        x.cheese(2, 5);
        x.cat(0);
        x.wax(1);
        x.year();
        x.wax(1);
        Checks.fill(x, 0, 1, 2);
        long before = x.digest();
        x.left(0, 40);
        x.eaten(40);
        x.when(1);
        x.save(1, 20);
        x.guard(20);
        x.places(0, 0);
        x.kinds(0, 0);
        x.look(0, 0);
        x.sets(9);
        x.sure(9);
        x.duel(0, 1, 2);
        x.odds(0, 5);
        x.mid(5);
        x.fault(0);
        c.due("23 to 35 change nothing", x.digest(), before);
    }
}
