import java.util.ArrayList;
import java.util.Arrays;
import java.util.List;

/**
 * The document once more, written apart from the class and as plainly as can be: states are copied whole,
 * what is undone is looked up, duels go through every branch. RandomRunsTest compares both.
 */
final class Plain {
    static final class Line {
        int wrong, had, left, cheese;
        boolean waxed;

        Line copy() {
            Line l = new Line();
            l.wrong = wrong;
            l.had = had;
            l.left = left;
            l.cheese = cheese;
            l.waxed = waxed;
            return l;
        }
    }

    static final class Mouse {
        char letter;
        int at, teeth;

        Mouse copy() {
            Mouse m = new Mouse();
            m.letter = letter;
            m.at = at;
            m.teeth = teeth;
            return m;
        }

        int eats() {
            return switch (letter) {
                case 'h', 'g' -> teeth + teeth;
                case 'w' -> 1 + (teeth >> 1);
                default -> teeth;
            };
        }

        int likes(int wrong, int cheese, int far) {
            return switch (letter) {
                case 'y' -> wrong + cheese;
                case 'o', 'w' -> (wrong > 3 ? wrong : 0) + cheese - far;
                case 'g' -> wrong + cheese + cheese - far;
                default -> wrong + cheese - far;
            };
        }
    }

    static final class State {
        final List<Line> lines = new ArrayList<>();
        final List<Mouse> mice = new ArrayList<>();
        int cat = -9, year = 0;

        State copy() {
            State s = new State();
            lines.forEach(l -> s.lines.add(l.copy()));
            mice.forEach(m -> s.mice.add(m.copy()));
            s.cat = cat;
            s.year = year;
            return s;
        }

        int wants(Mouse m) {
            List<int[]> open = new ArrayList<>();
            for (int l = 0; l < lines.size(); l++) {
                Line x = lines.get(l);
                int far = Math.abs(l - m.at);
                int liked = m.likes(x.wrong, x.cheese, far);
                if (x.left > 0 && !x.waxed && cat != l && liked > 0) {
                    open.add(new int[] {-liked, far, l});
                }
            }
            open.sort(Arrays::compare);
            return open.isEmpty() ? -9 : open.get(0)[2];
        }

        State after(int years) {
            State s = copy();
            for (int y = 0; y < years; y++) {
                s.pass(0);
            }
            return s;
        }

        int pass(int asleep) {
            int before = all();
            for (int i = 0; i < mice.size(); i++) {
                Mouse m = mice.get(i);
                int to = (asleep & 1 << i) != 0 ? -9 : wants(m);
                if (to >= 0) {
                    m.at = to;
                    lines.get(to).left = Math.max(0, lines.get(to).left - m.eats());
                }
            }
            for (Line l : lines) {
                if (l.cheese > 0) {
                    l.cheese--;
                }
            }
            year++;
            return before - all();
        }

        int all() {
            return lines.stream().mapToInt(l -> l.left).sum();
        }

        int cheese() {
            return lines.stream().mapToInt(l -> l.cheese).sum();
        }

        int eatenUp() {
            int bits = 0;
            for (int l = 0; l < lines.size(); l++) {
                bits += lines.get(l).left > 0 ? 0 : 1 << l;
            }
            return bits;
        }
    }

    private static final String KINDS = "myohwg";
    private final int[][] rows = new int[6][];
    private final byte[][] texts = new byte[4][];
    /** All states from the first to the one that is now: one more than there are DEEDS. */
    private List<State> past = new ArrayList<>(List.of(new State()));
    private final List<List<State>> kept = new ArrayList<>(Arrays.asList(null, null, null));
    private final int[] findings = new int[6];
    private int finding = 0, asked = 0;
    private long upper = 0, lower = 1;

    private State now() {
        return past.get(past.size() - 1);
    }

    /** A copy of the state that is now, for runs that look ahead. */
    State stateNow() {
        return now().copy();
    }

    private boolean in(int v, int least, int most) {
        return least <= v && v <= most;
    }

    private int find(int f) {
        finding = f;
        findings[f]++;
        return -3;
    }

    private int tell(int v) {
        asked = v;
        return 1;
    }

    private boolean isLine(int l) {
        return in(l, 0, now().lines.size() - 1);
    }

    private boolean isMouse(int i) {
        return in(i, 0, now().mice.size() - 1);
    }

    private boolean empty() {
        return now().mice.isEmpty();
    }

    int row(int r, int n) {
        if (!in(r, 0, 5) || n > 40) return -1;
        if (n < 0) return find(5);
        rows[r] = new int[n];
        return n;
    }

    int lay(int r, int i, int v) {
        if (!in(r, 0, 5)) return -1;
        if (rows[r] == null) return find(1);
        if (!in(i, 0, rows[r].length - 1)) return find(2);
        tell(rows[r][i]);
        rows[r][i] = v;
        return 1;
    }

    int at(int r, int i) {
        if (!in(r, 0, 5)) return -1;
        if (rows[r] == null) return find(1);
        if (!in(i, 0, rows[r].length - 1)) return find(2);
        return tell(rows[r][i]);
    }

    int tear(int r) {
        if (!in(r, 0, 5)) return -1;
        if (rows[r] == null) return find(1);
        rows[r] = null;
        return 1;
    }

    int copy(int r, int i, int to, int j, int n) {
        if (!in(r, 0, 5) || !in(to, 0, 5)) return -1;
        if (n < 0) return find(5);
        if (rows[r] == null || rows[to] == null) return find(1);
        if (i < 0 || j < 0 || (long) i + n > rows[r].length || (long) j + n > rows[to].length) return find(2);
        int[] taken = Arrays.copyOfRange(rows[r], i, i + n);
        for (int k = 0; k < n; k++) {
            rows[to][j + k] = taken[k];
        }
        return 1;
    }

    int mean(int r) {
        if (!in(r, 0, 5)) return -1;
        if (rows[r] == null) return find(1);
        if (rows[r].length == 0) return find(4);
        return tell((int) (Arrays.stream(rows[r]).asLongStream().sum() / rows[r].length));
    }

    int text(int t, int n) {
        if (!in(t, 0, 3) || n > 60) return -1;
        if (n < 0) return find(5);
        texts[t] = " ".repeat(n).getBytes();
        return n;
    }

    int put(int t, int i, int v) {
        if (!in(t, 0, 3)) return -1;
        if (texts[t] == null) return find(1);
        if (!in(i, 0, texts[t].length - 1)) return find(2);
        int was = texts[t][i];
        texts[t][i] = (byte) v;
        return was + 1000;
    }

    /** Consumes the text by one place a step, by a state that says what is due there. */
    private int read(byte[] text, State s) {
        int due = 0;
        int first = 0;
        for (int p = 0; p < text.length; p++) {
            char ch = (char) (text[p] & 255);
            boolean figure = ch >= '0' && ch <= '9';
            switch (due) {
                case 0:
                    if (ch == ' ') break;
                    if (ch != 'r') return p;
                    due = 1;
                    break;
                case 1:
                    if (ch == ' ') break;
                    if (ch == 'l') {
                        if (!s.mice.isEmpty() || s.lines.size() == 8) return p;
                        s.lines.add(new Line());
                        due = 2;
                        break;
                    }
                    if (KINDS.indexOf(ch) < 0 || s.lines.isEmpty() || s.mice.size() == 4) return p;
                    s.mice.add(new Mouse());
                    s.mice.get(s.mice.size() - 1).letter = ch;
                    due = 5;
                    break;
                case 2:
                    if (!figure) return p;
                    s.lines.get(s.lines.size() - 1).wrong = ch - '0';
                    due = 3;
                    break;
                case 3:
                    if (!figure) return p;
                    first = ch - '0';
                    due = 4;
                    break;
                case 4:
                    if (!figure) return p;
                    int letters = first * 10 + ch - '0';
                    if (letters == 0 || letters > 40) return p - 1;
                    s.lines.get(s.lines.size() - 1).had = letters;
                    s.lines.get(s.lines.size() - 1).left = letters;
                    due = 1;
                    break;
                case 5:
                    if (!figure || ch - '0' >= s.lines.size()) return p;
                    s.mice.get(s.mice.size() - 1).at = ch - '0';
                    due = 6;
                    break;
                default:
                    if (!figure || ch == '0') return p;
                    s.mice.get(s.mice.size() - 1).teeth = ch - '0';
                    due = 1;
                    break;
            }
        }
        return due == 1 && !s.mice.isEmpty() ? -9 : text.length;
    }

    int fault(int t) {
        if (!in(t, 0, 3)) return -1;
        if (texts[t] == null) return find(1);
        return read(texts[t], new State());
    }

    int register(int t) {
        if (!in(t, 0, 3)) return -1;
        if (texts[t] == null) return find(1);
        State s = new State();
        if (read(texts[t], s) != -9) return -4;
        past = new ArrayList<>(List.of(s));
        kept.replaceAll(k -> null);
        return s.mice.size();
    }

    private int ofLine(int l, int what) {
        Line x = now().lines.get(l);
        int bits = 0;
        for (int i = 0; i < now().mice.size(); i++) {
            bits += now().wants(now().mice.get(i)) == l ? 1 << i : 0;
        }
        return new int[] {x.wrong, x.had, x.left, x.cheese, x.waxed ? 1 : 0, bits}[what];
    }

    int line(int l, int what) {
        return isLine(l) && in(what, 0, 5) ? tell(ofLine(l, what)) : -1;
    }

    private int ofMouse(int i, int what) {
        Mouse m = now().mice.get(i);
        return new int[] {KINDS.indexOf(m.letter), m.at, m.teeth, m.eats(), now().wants(m)}[what];
    }

    int mouse(int i, int what) {
        return isMouse(i) && in(what, 0, 4) ? tell(ofMouse(i, what)) : -1;
    }

    int mark(int i, int kind) {
        if (!isMouse(i) || !in(kind, 1, 5)) return -1;
        Mouse m = now().mice.get(i);
        String of = new String[] {"", "y", "ow", "hg", "w", "g"}[kind];
        if (of.indexOf(m.letter) < 0) return find(3);
        List<Line> lines = now().lines;
        return switch (kind) {
            case 1 -> (int) lines.stream().filter(l -> l.wrong + l.cheese > 0).count();
            case 2 -> (int) lines.stream().filter(l -> l.wrong < 4).count();
            case 3 -> (int) Math.ceil(lines.get(m.at).left / (double) m.eats());
            case 4 -> m.teeth - m.eats();
            default -> now().cheese();
        };
    }

    private State begin() {
        State s = now().copy();
        past.add(s);
        return s;
    }

    private boolean full() {
        return past.size() > 40;
    }

    int year() {
        if (empty()) return -4;
        if (full()) return -2;
        return begin().pass(0);
    }

    int cheese(int l, int n) {
        if (!isLine(l) || !in(n, 1, 9)) return -1;
        if (now().lines.get(l).cheese + n > 20) return -4;
        if (full()) return -2;
        return begin().lines.get(l).cheese += n;
    }

    int cat(int l) {
        if (l != -9 && !isLine(l)) return -1;
        if (empty() || now().cat == l) return -4;
        if (full()) return -2;
        int was = now().cat;
        begin().cat = l;
        return was;
    }

    int wax(int l) {
        if (!isLine(l)) return -1;
        if (full()) return -2;
        Line x = begin().lines.get(l);
        x.waxed = !x.waxed;
        return x.waxed ? 1 : 0;
    }

    int undo(int n) {
        int deeds = past.size() - 1;
        if (!in(n, 0, deeds - 1)) return -1;
        past = new ArrayList<>(past.subList(0, n + 1));
        return deeds - n;
    }

    int keep(int k) {
        if (!in(k, 0, 2)) return -1;
        if (empty()) return -4;
        kept.set(k, new ArrayList<>(past));
        return past.size() - 1;
    }

    int on(int k) {
        if (!in(k, 0, 2)) return -1;
        if (kept.get(k) == null) return find(1);
        past = new ArrayList<>(kept.get(k));
        return past.size() - 1;
    }

    int likes(int i, int w, int cheese, int far) {
        if (!isMouse(i) || !in(w, 0, 9) || !in(cheese, 0, 20) || !in(far, 0, 7)) return -1;
        return tell(now().mice.get(i).likes(w, cheese, far));
    }

    int left(int l, int n) {
        return isLine(l) && in(n, 0, 40) ? now().after(n).lines.get(l).left : -1;
    }

    int eaten(int n) {
        if (!in(n, 0, 40)) return -1;
        return empty() ? -4 : now().after(n).eatenUp();
    }

    int when(int l) {
        if (!isLine(l)) return -1;
        for (int n = 0; n <= 40; n++) {
            if (now().after(n).lines.get(l).left == 0) return n;
        }
        return -9;
    }

    int save(int l, int n) {
        if (!isLine(l) || !in(n, 1, 20)) return -1;
        if (now().after(n).lines.get(l).left > 0) {
            tell(-9);
            return 0;
        }
        int best = 21, on = -9;
        for (int m = 0; m < now().lines.size(); m++) {
            for (int more = 1; m != l && more <= 20 - now().lines.get(m).cheese; more++) {
                State s = now().copy();
                s.lines.get(m).cheese += more;
                if (s.after(n).lines.get(l).left > 0 && more < best) {
                    best = more;
                    on = m;
                }
            }
        }
        if (best > 20) return -9;
        tell(on);
        return best;
    }

    int guard(int n) {
        if (!in(n, 1, 20)) return -1;
        if (empty()) return -4;
        int best = -1, at = -1;
        for (int l = now().lines.size() - 1; l >= 0; l--) {
            State s = now().copy();
            s.cat = l;
            int all = s.after(n).all();
            if (all >= best) {
                best = all;
                at = l;
            }
        }
        tell(best);
        return at;
    }

    private int refusedTrace(int i, int r) {
        if (!isMouse(i) || !in(r, 0, 5)) return -1;
        if (rows[r] == null) return find(1);
        if (!in(rows[r].length, 1, 10)) return find(5);
        for (int v : rows[r]) {
            if (!isLine(v)) return find(3);
        }
        return 0;
    }

    private boolean follows(State s, int i, int[] row) {
        int[] seen = new int[row.length];
        for (int y = 0; y < row.length; y++) {
            seen[y] = s.after(y + 1).mice.get(i).at;
        }
        return Arrays.equals(seen, row);
    }

    int places(int i, int r) {
        int refused = refusedTrace(i, r);
        if (refused != 0) return refused;
        int bits = 0;
        for (int l = 0; l < now().lines.size(); l++) {
            State s = now().copy();
            s.mice.get(i).at = l;
            bits += follows(s, i, rows[r]) ? 1 << l : 0;
        }
        return bits;
    }

    int kinds(int i, int r) {
        int refused = refusedTrace(i, r);
        if (refused != 0) return refused;
        int bits = 0;
        for (int k = 0; k < 6; k++) {
            bits += follows(as(i, k), i, rows[r]) ? 1 << k : 0;
        }
        return bits;
    }

    private State as(int i, int kind) {
        State s = now().copy();
        s.mice.get(i).letter = KINDS.charAt(kind);
        return s;
    }

    int look(int i, int r) {
        int kinds = kinds(i, r);
        if (kinds < 0) return kinds;
        if (kinds == 0) return -9;
        int best = 99, year = 0;
        for (int y = 20; y >= 1; y--) {
            int[] at = new int[8];
            for (int k = 0; k < 6; k++) {
                if ((kinds & 1 << k) != 0) {
                    at[as(i, k).after(y).mice.get(i).at]++;
                }
            }
            int most = Arrays.stream(at).max().getAsInt();
            if (most <= best) {
                best = most;
                year = y;
            }
        }
        tell(best);
        return year;
    }

    private List<Integer> setsOf(int v) {
        List<Integer> found = new ArrayList<>();
        for (int set = 0; set < 1 << now().lines.size(); set++) {
            int sum = 0;
            for (int l = 0; l < now().lines.size(); l++) {
                sum += (set & 1 << l) != 0 ? now().lines.get(l).left : 0;
            }
            if (sum == v) found.add(set);
        }
        return found;
    }

    int sets(int v) {
        if (!in(v, 0, 320)) return -1;
        if (empty()) return -4;
        List<Integer> found = setsOf(v);
        upper = found.size();
        lower = 1;
        return tell(found.isEmpty() ? -9 : found.get(0));
    }

    int sure(int v) {
        if (!in(v, 0, 320)) return -1;
        if (empty()) return -4;
        List<Integer> found = setsOf(v);
        if (found.isEmpty()) return find(4);
        int each = 0, none = 0;
        for (int l = 0; l < now().lines.size(); l++) {
            final int bit = 1 << l;
            each += found.stream().allMatch(s -> (s & bit) != 0) ? bit : 0;
            none += found.stream().noneMatch(s -> (s & bit) != 0) ? bit : 0;
        }
        tell(none);
        return each;
    }

    int duel(int a, int b, int n) {
        if (!isLine(a) || !isLine(b) || a == b || !in(n, 0, 2)) return -1;
        return tell(turn(now().copy(), a, b, 0, 2 * n));
    }

    private int turn(State s, int a, int b, int done, int all) {
        if (done == all) {
            State then = s.after(1);
            return then.lines.get(a).left - then.lines.get(b).left;
        }
        int sign = done % 2 == 0 ? 1 : -1;
        int best = sign * turn(s, a, b, done + 1, all);
        for (Line l : s.lines) {
            if (l.cheese < 20) {
                l.cheese++;
                best = Math.max(best, sign * turn(s, a, b, done + 1, all));
                l.cheese--;
            }
        }
        return sign * best;
    }

    private void chances(int p, java.util.function.ToLongFunction<State> worth) {
        long sum = 0, all = 0;
        int mice = now().mice.size();
        for (int asleep = 0; asleep < 1 << mice; asleep++) {
            State s = now().copy();
            s.pass(asleep);
            int sleepers = Integer.bitCount(asleep);
            long weight = Math.round(Math.pow(p, sleepers) * Math.pow(12 - p, mice - sleepers));
            sum += weight * worth.applyAsLong(s);
            all += weight;
        }
        java.math.BigInteger shared = java.math.BigInteger.valueOf(sum).gcd(java.math.BigInteger.valueOf(all));
        upper = sum / shared.longValue();
        lower = all / shared.longValue();
    }

    int odds(int l, int p) {
        if (!isLine(l) || !in(p, 0, 12)) return -1;
        chances(p, s -> s.lines.get(l).left == now().lines.get(l).left ? 1 : 0);
        return 1;
    }

    int mid(int p) {
        if (!in(p, 0, 12)) return -1;
        if (empty()) return -4;
        chances(p, State::all);
        return 1;
    }

    int lots(int n, int seed) {
        if (!in(n, 1, 20) || !in(seed, 1, 2147483646)) return -1;
        if (empty()) return -4;
        if (past.size() - 1 + n > 40) return -2;
        long x = seed;
        for (int d = 0; d < n; d++) {
            x = x * 48271L % 2147483647L;
            State s = begin();
            int l = (int) (x % s.lines.size());
            Line line = s.lines.get(l);
            switch ((int) (x / 8 % 8)) {
                case 0, 1 -> line.cheese = (int) Math.min(20, line.cheese + 1 + x / 64 % 5);
                case 2 -> s.cat = l;
                case 3 -> line.waxed = !line.waxed;
                default -> s.pass(0);
            }
        }
        return now().all();
    }

    int asked() {
        return asked;
    }

    long upper() {
        return upper;
    }

    long lower() {
        return lower;
    }

    int count(int what) {
        State s = now();
        int waxed = 0;
        for (int l = 0; l < s.lines.size(); l++) {
            waxed += s.lines.get(l).waxed ? 1 << l : 0;
        }
        int old = (int) s.mice.stream().filter(m -> "ow".indexOf(m.letter) >= 0).count();
        int hungry = (int) s.mice.stream().filter(m -> "hg".indexOf(m.letter) >= 0).count();
        int[] counts = {s.lines.size(), s.mice.size(), s.year, past.size() - 1, s.all(), s.eatenUp(), waxed, s.cat,
            s.cheese(), old, hungry, there(Arrays.asList(rows)), there(Arrays.asList(texts)), there(kept)};
        return in(what, 0, 13) ? counts[what] : -1;
    }

    private static int there(List<?> those) {
        return (int) those.stream().filter(x -> x != null).count();
    }

    int finding() {
        return finding;
    }

    int findings(int f) {
        return in(f, 1, 5) ? findings[f] : -1;
    }

    long digest() {
        List<Integer> all = new ArrayList<>();
        for (int what = 0; what <= 13; what++) {
            all.add(count(what));
        }
        for (int l = 0; l < now().lines.size(); l++) {
            for (int what = 0; what <= 5; what++) {
                all.add(ofLine(l, what));
            }
        }
        for (int i = 0; i < now().mice.size(); i++) {
            for (int what = 0; what <= 4; what++) {
                all.add(ofMouse(i, what));
            }
        }
        for (List<State> k : kept) {
            all.add(k == null ? -1 : k.size() - 1);
        }
        for (int[] r : rows) {
            all.add(r == null ? -1 : r.length);
            for (int i = 0; r != null && i < r.length; i++) {
                all.add(r[i]);
            }
        }
        for (byte[] t : texts) {
            all.add(t == null ? -1 : t.length);
            for (int i = 0; t != null && i < t.length; i++) {
                all.add((int) t[i]);
            }
        }
        long h = 17;
        for (int v : all) {
            h = 31 * h + v;
        }
        return h;
    }
}
