/** The registers that the vestry mice keep: what they eat, what is left, and what would save it. */
public final class MiceRegisters {
    public static final int BAD = -1, FULL = -2, FINDING = -3, STATE = -4, SPENT = -6, NONE = -9;

    private static final int NOTHING = 1, BEYOND = 2, UNLIKE = 3, NOUGHT = 4, SIZE = 5;
    private static final int FITS = 0;

    private static final int ROWS = 6, ROW_MOST = 40, TEXTS = 4, TEXT_MOST = 60, PLACES = 3;
    private static final int MISSING = -1;
    private static final int BYTE_OFFSET = 1000;

    private static final int LINES_MOST = 8, MICE_MOST = 4, LETTERS_MOST = 40, DEEDS_MOST = 40;
    private static final int CHEESE_MOST = 20, CHEESE_AT_ONCE = 9, WRONG_MOST = 9, FAR_MOST = 7;
    private static final int TEETH_MOST = 9;
    private static final int OLD_LEAVES = 3;

    private static final int MOUSE = 0, YOUNG = 1, OLD = 2, HUNGRY = 3, WHITE = 4, GREEDY = 5;
    private static final int KINDS = 6;
    private static final int[] KIND_LETTERS = {109, 121, 111, 104, 119, 103};
    private static final int BLANK = 32, FIGURE_0 = 48, LETTER_REGISTER = 114, LETTER_LINE = 108;
    private static final int LINE_WIDTH = 4, MOUSE_WIDTH = 3;

    private static final int DEED_YEAR = 0, DEED_CHEESE = 1, DEED_CAT = 2, DEED_WAX = 3;

    private static final int YEARS_AHEAD = 40, YEARS_TO_SAVE = 20, YEARS_TO_LOOK = 20;
    private static final int TRACE_MOST = 10;
    private static final int SETS_MOST = 320;
    private static final int DUEL_MOST = 2;
    private static final int SLEEP_PARTS = 12;
    private static final int LOTS_MOST = 20, LOT_FACTOR = 48271, LOT_MODULUS = 2147483647;
    /** Euclid's divisions of two longs are never more than some ninety. */
    private static final int DIVISION_STEPS = 100;
    private static final int LINE_TELLS = 6, MOUSE_TELLS = 5, COUNT_TELLS = 14;

    private final int[] rowSizes = new int[ROWS];
    private final int[][] rows = new int[ROWS][ROW_MOST];
    private final int[] textSizes = new int[TEXTS];
    private final byte[][] texts = new byte[TEXTS][TEXT_MOST];
    private final Register now = new Register();
    /** What comes is tried out here, so that the register itself stays as it is. */
    private final Register aside = new Register();
    /** A second one: a duel tries out its last YEAR from many places of what is tried out. */
    private final Register further = new Register();
    private final Deeds deeds = new Deeds();
    private final Deeds[] kept = new Deeds[PLACES];
    private final int[][] whereKindsAre = new int[YEARS_TO_LOOK][LINES_MOST];
    private final int[] findingCounts = new int[SIZE + 1];
    private int latestFinding = 0;
    private int latestAsked = 0;
    private long latestUpper = 0;
    private long latestLower = 1;

    public MiceRegisters() {
        for (int r = 0; r < ROWS; r++) {
            rowSizes[r] = MISSING;
        }
        for (int t = 0; t < TEXTS; t++) {
            textSizes[t] = MISSING;
        }
        for (int k = 0; k < PLACES; k++) {
            kept[k] = new Deeds();
            kept[k].size = MISSING;
        }
    }

    // ---- 1 rows, texts, registers

    public int row(int r, int n) {
        if (isNoRow(r) || n > ROW_MOST) {
            return BAD;
        }
        if (n < 0) {
            return refuseBy(SIZE);
        }
        for (int i = 0; i < n; i++) {
            rows[r][i] = 0;
        }
        rowSizes[r] = n;
        return n;
    }

    public int lay(int r, int i, int v) {
        int refused = refusalOfPlace(r, i);
        if (refused != FITS) {
            return refused;
        }
        int was = rows[r][i];
        rows[r][i] = v;
        return tell(was);
    }

    public int at(int r, int i) {
        int refused = refusalOfPlace(r, i);
        if (refused != FITS) {
            return refused;
        }
        return tell(rows[r][i]);
    }

    public int tear(int r) {
        if (isNoRow(r)) {
            return BAD;
        }
        if (rowSizes[r] == MISSING) {
            return refuseBy(NOTHING);
        }
        rowSizes[r] = MISSING;
        return 1;
    }

    public int copy(int r, int i, int to, int j, int n) {
        if (isNoRow(r) || isNoRow(to)) {
            return BAD;
        }
        if (n < 0) {
            return refuseBy(SIZE);
        }
        if (rowSizes[r] == MISSING || rowSizes[to] == MISSING) {
            return refuseBy(NOTHING);
        }
        if (isBeyond(i, n, rowSizes[r]) || isBeyond(j, n, rowSizes[to])) {
            return refuseBy(BEYOND);
        }
        System.arraycopy(rows[r], i, rows[to], j, n);
        return 1;
    }

    public int mean(int r) {
        if (isNoRow(r)) {
            return BAD;
        }
        int size = rowSizes[r];
        if (size == MISSING) {
            return refuseBy(NOTHING);
        }
        if (size <= 0) {
            return refuseBy(NOUGHT);
        }
        long sum = 0;
        for (int i = 0; i < size; i++) {
            sum += rows[r][i];
        }
        return tell((int) (sum / size));
    }

    public int text(int t, int n) {
        if (isNoText(t) || n > TEXT_MOST) {
            return BAD;
        }
        if (n < 0) {
            return refuseBy(SIZE);
        }
        for (int i = 0; i < n; i++) {
            texts[t][i] = BLANK;
        }
        textSizes[t] = n;
        return n;
    }

    public int put(int t, int i, int v) {
        if (isNoText(t)) {
            return BAD;
        }
        if (textSizes[t] == MISSING) {
            return refuseBy(NOTHING);
        }
        if (i < 0 || i >= textSizes[t]) {
            return refuseBy(BEYOND);
        }
        int was = texts[t][i];
        texts[t][i] = (byte) v;
        return was + BYTE_OFFSET;
    }

    public int fault(int t) {
        if (isNoText(t)) {
            return BAD;
        }
        if (textSizes[t] == MISSING) {
            return refuseBy(NOTHING);
        }
        return readAside(t);
    }

    public int register(int t) {
        if (isNoText(t)) {
            return BAD;
        }
        if (textSizes[t] == MISSING) {
            return refuseBy(NOTHING);
        }
        if (readAside(t) != NONE) {
            return STATE;
        }
        aside.beginAnew();
        now.takeFrom(aside);
        deeds.size = 0;
        for (int k = 0; k < PLACES; k++) {
            kept[k].size = MISSING;
        }
        return now.mice;
    }

    public int line(int l, int what) {
        if (isNoLine(l) || what < 0 || what >= LINE_TELLS) {
            return BAD;
        }
        return tell(ofLine(l, what));
    }

    public int mouse(int i, int what) {
        if (isNoMouse(i) || what < 0 || what >= MOUSE_TELLS) {
            return BAD;
        }
        return tell(ofMouse(i, what));
    }

    public int mark(int i, int kind) {
        if (isNoMouse(i) || kind <= MOUSE || kind >= KINDS) {
            return BAD;
        }
        if (!isOfKind(now.kinds[i], kind)) {
            return refuseBy(UNLIKE);
        }
        switch (kind) {
            case YOUNG:
                return now.linesLikedBy(i);
            case OLD:
                return now.linesLittleWrong();
            case HUNGRY:
                return now.yearsToEatUpAlone(i);
            case WHITE:
                return eatenInAYear(MOUSE, now.teeth[i]) - eatenInAYear(now.kinds[i], now.teeth[i]);
            default:
                return now.allCheese();
        }
    }

    // ---- 2 deeds

    public int year() {
        if (now.mice == 0) {
            return STATE;
        }
        if (deeds.size >= DEEDS_MOST) {
            return FULL;
        }
        return doTruly(DEED_YEAR, 0, 0);
    }

    public int cheese(int l, int n) {
        if (isNoLine(l) || n < 1 || n > CHEESE_AT_ONCE) {
            return BAD;
        }
        if (now.cheeses[l] + n > CHEESE_MOST) {
            return STATE;
        }
        if (deeds.size >= DEEDS_MOST) {
            return FULL;
        }
        return doTruly(DEED_CHEESE, l, n);
    }

    public int cat(int l) {
        if (l != NONE && isNoLine(l)) {
            return BAD;
        }
        if (now.mice == 0 || now.catAt == l) {
            return STATE;
        }
        if (deeds.size >= DEEDS_MOST) {
            return FULL;
        }
        return doTruly(DEED_CAT, l, 0);
    }

    public int wax(int l) {
        if (isNoLine(l)) {
            return BAD;
        }
        if (deeds.size >= DEEDS_MOST) {
            return FULL;
        }
        return doTruly(DEED_WAX, l, 0);
    }

    public int undo(int n) {
        if (n < 0 || n >= deeds.size) {
            return BAD;
        }
        int undone = deeds.size - n;
        deeds.size = n;
        doAgain();
        return undone;
    }

    public int keep(int k) {
        if (isNoPlace(k)) {
            return BAD;
        }
        if (now.mice == 0) {
            return STATE;
        }
        kept[k].takeFrom(deeds);
        return deeds.size;
    }

    public int on(int k) {
        if (isNoPlace(k)) {
            return BAD;
        }
        if (kept[k].size == MISSING) {
            return refuseBy(NOTHING);
        }
        deeds.takeFrom(kept[k]);
        doAgain();
        return deeds.size;
    }

    // ---- 3 what comes (aside)

    public int likes(int i, int w, int cheese, int far) {
        if (isNoMouse(i) || w < 0 || w > WRONG_MOST || cheese < 0 || cheese > CHEESE_MOST
                || far < 0 || far > FAR_MOST) {
            return BAD;
        }
        return tell(liking(now.kinds[i], w, cheese, far));
    }

    public int left(int l, int n) {
        if (isNoLine(l) || n < 0 || n > YEARS_AHEAD) {
            return BAD;
        }
        goAside(n);
        return aside.left[l];
    }

    public int eaten(int n) {
        if (n < 0 || n > YEARS_AHEAD) {
            return BAD;
        }
        if (now.mice == 0) {
            return STATE;
        }
        goAside(n);
        return aside.linesEatenUp();
    }

    public int when(int l) {
        if (isNoLine(l)) {
            return BAD;
        }
        aside.takeFrom(now);
        for (int y = 0; y < YEARS_AHEAD; y++) {
            if (aside.left[l] == 0) {
                return y;
            }
            aside.passYear(0);
        }
        return aside.left[l] == 0 ? YEARS_AHEAD : NONE;
    }

    // ---- 4 to save (aside, now)

    public int save(int l, int n) {
        if (isNoLine(l) || n < 1 || n > YEARS_TO_SAVE) {
            return BAD;
        }
        if (isSavedBy(l, n, l, 0)) {
            tell(NONE);
            return 0;
        }
        for (int more = 1; more <= CHEESE_MOST; more++) {
            for (int other = 0; other < now.lines; other++) {
                if (other != l && now.cheeses[other] + more <= CHEESE_MOST && isSavedBy(l, n, other, more)) {
                    tell(other);
                    return more;
                }
            }
        }
        return NONE;
    }

    public int guard(int n) {
        if (n < 1 || n > YEARS_TO_SAVE) {
            return BAD;
        }
        if (now.mice == 0) {
            return STATE;
        }
        int best = 0;
        int most = -1;
        for (int l = 0; l < now.lines; l++) {
            aside.takeFrom(now);
            aside.catAt = l;
            aside.passYears(n);
            int saved = aside.allLeft();
            if (saved > most) {
                most = saved;
                best = l;
            }
        }
        tell(most);
        return best;
    }

    // ---- 5 by where it was

    public int places(int i, int r) {
        int refused = refusalOfTrace(i, r);
        if (refused != FITS) {
            return refused;
        }
        int fit = 0;
        for (int l = 0; l < now.lines; l++) {
            aside.takeFrom(now);
            aside.places[i] = l;
            if (goesAsRow(i, r)) {
                fit |= 1 << l;
            }
        }
        return fit;
    }

    public int kinds(int i, int r) {
        int refused = refusalOfTrace(i, r);
        if (refused != FITS) {
            return refused;
        }
        return kindsThatFit(i, r);
    }

    public int look(int i, int r) {
        int refused = refusalOfTrace(i, r);
        if (refused != FITS) {
            return refused;
        }
        int fit = kindsThatFit(i, r);
        if (fit == 0) {
            return NONE;
        }
        followKinds(i, fit);
        int best = 0;
        int least = KINDS + 1;
        for (int y = 0; y < YEARS_TO_LOOK; y++) {
            int part = greatestPart(y);
            if (part < least) {
                least = part;
                best = y + 1;
            }
        }
        tell(least);
        return best;
    }

    // ---- 6 in which lines

    public int sets(int v) {
        if (v < 0 || v > SETS_MOST) {
            return BAD;
        }
        if (now.mice == 0) {
            return STATE;
        }
        int many = 0;
        int first = NONE;
        for (int set = 0; set < 1 << now.lines; set++) {
            if (now.leftTogether(set) == v) {
                many++;
                first = first == NONE ? set : first;
            }
        }
        tellParts(many, 1);
        return tell(first);
    }

    public int sure(int v) {
        if (v < 0 || v > SETS_MOST) {
            return BAD;
        }
        if (now.mice == 0) {
            return STATE;
        }
        int all = (1 << now.lines) - 1;
        int inEach = all;
        int inSome = 0;
        boolean none = true;
        for (int set = 0; set <= all; set++) {
            if (now.leftTogether(set) == v) {
                none = false;
                inEach &= set;
                inSome |= set;
            }
        }
        if (none) {
            return refuseBy(NOUGHT);
        }
        tell(all & ~inSome);
        return inEach;
    }

    // ---- 7 by turns

    public int duel(int a, int b, int n) {
        if (isNoLine(a) || isNoLine(b) || a == b || n < 0 || n > DUEL_MOST) {
            return BAD;
        }
        aside.takeFrom(now);
        return tell(duelFrom(aside, further, 2 * n, a, b, -LETTERS_MOST, LETTERS_MOST));
    }

    // ---- 8 chances, lots

    public int odds(int l, int p) {
        if (isNoLine(l) || p < 0 || p > SLEEP_PARTS) {
            return BAD;
        }
        long untouched = 0;
        for (int asleep = 0; asleep < 1 << now.mice; asleep++) {
            sleepAside(asleep);
            if (aside.left[l] == now.left[l]) {
                untouched += weightOf(asleep, p);
            }
        }
        tellParts(untouched, allWeights());
        return 1;
    }

    public int mid(int p) {
        if (p < 0 || p > SLEEP_PARTS) {
            return BAD;
        }
        if (now.mice == 0) {
            return STATE;
        }
        long sum = 0;
        for (int asleep = 0; asleep < 1 << now.mice; asleep++) {
            sleepAside(asleep);
            sum += weightOf(asleep, p) * aside.allLeft();
        }
        tellParts(sum, allWeights());
        return 1;
    }

    public int lots(int n, int seed) {
        if (n < 1 || n > LOTS_MOST || seed < 1 || seed >= LOT_MODULUS) {
            return BAD;
        }
        if (now.mice == 0) {
            return STATE;
        }
        if (deeds.size + n > DEEDS_MOST) {
            return FULL;
        }
        long lot = seed;
        for (int d = 0; d < n; d++) {
            lot = lot * LOT_FACTOR % LOT_MODULUS;
            doByLot((int) lot);
        }
        return now.allLeft();
    }

    // ---- 9 what is told

    public int asked() {
        return latestAsked;
    }

    public long upper() {
        return latestUpper;
    }

    public long lower() {
        return latestLower;
    }

    public int count(int what) {
        if (what < 0 || what >= COUNT_TELLS) {
            return BAD;
        }
        return countOf(what);
    }

    public int finding() {
        return latestFinding;
    }

    public int findings(int f) {
        if (f < NOTHING || f > SIZE) {
            return BAD;
        }
        return findingCounts[f];
    }

    public long digest() {
        long h = 17;
        for (int what = 0; what < COUNT_TELLS; what++) {
            h = 31 * h + countOf(what);
        }
        for (int l = 0; l < now.lines; l++) {
            for (int what = 0; what < LINE_TELLS; what++) {
                h = 31 * h + ofLine(l, what);
            }
        }
        for (int i = 0; i < now.mice; i++) {
            for (int what = 0; what < MOUSE_TELLS; what++) {
                h = 31 * h + ofMouse(i, what);
            }
        }
        for (int k = 0; k < PLACES; k++) {
            h = 31 * h + kept[k].size;
        }
        return digestOfTexts(digestOfRows(h));
    }

    // ---- what is told, what is refused

    private int tell(int v) {
        latestAsked = v;
        return 1;
    }

    private void tellParts(long above, long below) {
        long shared = commonDivisor(above, below);
        if (shared > 0) {
            latestUpper = above / shared;
            latestLower = below / shared;
        }
    }

    private static long commonDivisor(long a, long b) {
        long greater = a;
        long rest = b;
        for (int step = 0; rest > 0 && step < DIVISION_STEPS; step++) {
            long next = greater % rest;
            greater = rest;
            rest = next;
        }
        return greater;
    }

    private int refuseBy(int finding) {
        latestFinding = finding;
        findingCounts[finding]++;
        return FINDING;
    }

    private static boolean isNoRow(int r) {
        return r < 0 || r >= ROWS;
    }

    private static boolean isNoText(int t) {
        return t < 0 || t >= TEXTS;
    }

    private static boolean isNoPlace(int k) {
        return k < 0 || k >= PLACES;
    }

    private boolean isNoLine(int l) {
        return l < 0 || l >= now.lines;
    }

    private boolean isNoMouse(int i) {
        return i < 0 || i >= now.mice;
    }

    /** Written as a difference, since from + n may wrap around. */
    private static boolean isBeyond(int from, int n, int size) {
        return from < 0 || from > size - n;
    }

    private int refusalOfPlace(int r, int i) {
        if (isNoRow(r)) {
            return BAD;
        }
        if (rowSizes[r] == MISSING) {
            return refuseBy(NOTHING);
        }
        if (i < 0 || i >= rowSizes[r]) {
            return refuseBy(BEYOND);
        }
        return FITS;
    }

    private int refusalOfTrace(int i, int r) {
        if (isNoMouse(i) || isNoRow(r)) {
            return BAD;
        }
        int size = rowSizes[r];
        if (size == MISSING) {
            return refuseBy(NOTHING);
        }
        if (size < 1 || size > TRACE_MOST) {
            return refuseBy(SIZE);
        }
        for (int y = 0; y < size; y++) {
            if (isNoLine(rows[r][y])) {
                return refuseBy(UNLIKE);
            }
        }
        return FITS;
    }

    private int ofLine(int l, int what) {
        switch (what) {
            case 0:
                return now.wrong[l];
            case 1:
                return now.letters[l];
            case 2:
                return now.left[l];
            case 3:
                return now.cheeses[l];
            case 4:
                return now.waxed >> l & 1;
            default:
                return now.miceThatWant(l);
        }
    }

    private int ofMouse(int i, int what) {
        switch (what) {
            case 0:
                return now.kinds[i];
            case 1:
                return now.places[i];
            case 2:
                return now.teeth[i];
            case 3:
                return eatenInAYear(now.kinds[i], now.teeth[i]);
            default:
                return now.lineWantedBy(i);
        }
    }

    private int countOf(int what) {
        switch (what) {
            case 0:
                return now.lines;
            case 1:
                return now.mice;
            case 2:
                return now.years;
            case 3:
                return deeds.size;
            case 4:
                return now.allLeft();
            case 5:
                return now.linesEatenUp();
            case 6:
                return now.waxed;
            case 7:
                return now.catAt;
            case 8:
                return now.allCheese();
            case 9:
                return now.miceOfKind(OLD);
            case 10:
                return now.miceOfKind(HUNGRY);
            case 11:
                return howManyThere(rowSizes);
            case 12:
                return howManyThere(textSizes);
            default:
                return howManyKept();
        }
    }

    private static int howManyThere(int[] sizes) {
        int there = 0;
        for (int size : sizes) {
            there += size == MISSING ? 0 : 1;
        }
        return there;
    }

    private int howManyKept() {
        int there = 0;
        for (int k = 0; k < PLACES; k++) {
            there += kept[k].size == MISSING ? 0 : 1;
        }
        return there;
    }

    private long digestOfRows(long before) {
        long h = before;
        for (int r = 0; r < ROWS; r++) {
            h = 31 * h + rowSizes[r];
            for (int i = 0; i < rowSizes[r]; i++) {
                h = 31 * h + rows[r][i];
            }
        }
        return h;
    }

    private long digestOfTexts(long before) {
        long h = before;
        for (int t = 0; t < TEXTS; t++) {
            h = 31 * h + textSizes[t];
            for (int i = 0; i < textSizes[t]; i++) {
                h = 31 * h + texts[t][i];
            }
        }
        return h;
    }

    // ---- reading a register's text

    /** Reads a TEXT into the register aside: its FAULT, or NONE. */
    private int readAside(int t) {
        byte[] text = texts[t];
        int size = textSizes[t];
        aside.lines = 0;
        aside.mice = 0;
        int p = behindBlanks(text, size);
        if (p >= size || text[p] != LETTER_REGISTER) {
            return p;
        }
        for (p++; p < size; p++) {
            if (text[p] == BLANK) {
                continue;
            }
            boolean isLine = text[p] == LETTER_LINE;
            int fault = isLine ? readLine(text, size, p) : readMouse(text, size, p);
            if (fault != NONE) {
                return fault;
            }
            p += (isLine ? LINE_WIDTH : MOUSE_WIDTH) - 1;
        }
        return aside.mice == 0 ? size : NONE;
    }

    private static int behindBlanks(byte[] text, int size) {
        int p = 0;
        while (p < size && text[p] == BLANK) {
            p++;
        }
        return p;
    }

    private int readLine(byte[] text, int size, int p) {
        if (aside.mice > 0 || aside.lines >= LINES_MOST) {
            return p;
        }
        for (int q = p + 1; q < p + LINE_WIDTH; q++) {
            int fault = faultOfFigure(text, size, q, 0, 9);
            if (fault != NONE) {
                return fault;
            }
        }
        int letters = 10 * (text[p + 2] - FIGURE_0) + text[p + 3] - FIGURE_0;
        if (letters < 1 || letters > LETTERS_MOST) {
            return p + 2;
        }
        aside.wrong[aside.lines] = text[p + 1] - FIGURE_0;
        aside.letters[aside.lines] = letters;
        aside.lines++;
        return NONE;
    }

    private int readMouse(byte[] text, int size, int p) {
        int kind = kindOfLetter(text[p]);
        if (kind == NONE || aside.lines == 0 || aside.mice >= MICE_MOST) {
            return p;
        }
        int fault = faultOfFigure(text, size, p + 1, 0, aside.lines - 1);
        if (fault == NONE) {
            fault = faultOfFigure(text, size, p + 2, 1, TEETH_MOST);
        }
        if (fault != NONE) {
            return fault;
        }
        aside.kinds[aside.mice] = kind;
        aside.firstPlaces[aside.mice] = text[p + 1] - FIGURE_0;
        aside.teeth[aside.mice] = text[p + 2] - FIGURE_0;
        aside.mice++;
        return NONE;
    }

    private static int faultOfFigure(byte[] text, int size, int p, int least, int most) {
        if (p >= size) {
            return size;
        }
        int figure = text[p] - FIGURE_0;
        return figure < least || figure > most ? p : NONE;
    }

    private static int kindOfLetter(int letter) {
        for (int kind = 0; kind < KINDS; kind++) {
            if (KIND_LETTERS[kind] == letter) {
                return kind;
            }
        }
        return NONE;
    }

    // ---- kinds of mice

    private static boolean isOfKind(int kind, int wanted) {
        return wanted == MOUSE || kind == wanted
                || kind == WHITE && wanted == OLD
                || kind == GREEDY && wanted == HUNGRY;
    }

    private static int liking(int kind, int wrong, int cheese, int far) {
        switch (kind) {
            case YOUNG:
                return wrong + cheese;
            case OLD:
            case WHITE:
                return (wrong <= OLD_LEAVES ? 0 : wrong) + cheese - far;
            case GREEDY:
                return wrong + 2 * cheese - far;
            default:
                return wrong + cheese - far;
        }
    }

    private static int eatenInAYear(int kind, int teeth) {
        switch (kind) {
            case HUNGRY:
            case GREEDY:
                return 2 * teeth;
            case WHITE:
                return teeth / 2 + 1;
            default:
                return teeth;
        }
    }

    // ---- deeds, truly and aside

    private int doTruly(int what, int line, int amount) {
        deeds.add(what, line, amount);
        return now.change(what, line, amount);
    }

    /** The register is always its text and its deeds: so undone and kept ones are done again from the start. */
    private void doAgain() {
        now.beginAnew();
        for (int d = 0; d < deeds.size; d++) {
            now.change(deeds.whats[d], deeds.lines[d], deeds.amounts[d]);
        }
    }

    private void doByLot(int lot) {
        int line = now.lines > 0 ? lot % now.lines : 0;
        switch (lot / 8 % 8) {
            case 0:
            case 1:
                doTruly(DEED_CHEESE, line, 1 + lot / 64 % 5);
                break;
            case 2:
                doTruly(DEED_CAT, line, 0);
                break;
            case 3:
                doTruly(DEED_WAX, line, 0);
                break;
            default:
                doTruly(DEED_YEAR, 0, 0);
                break;
        }
    }

    private void goAside(int years) {
        aside.takeFrom(now);
        aside.passYears(years);
    }

    private void sleepAside(int asleep) {
        aside.takeFrom(now);
        aside.passYear(asleep);
    }

    private boolean isSavedBy(int l, int years, int other, int more) {
        aside.takeFrom(now);
        aside.cheeses[other] += more;
        for (int y = 0; y < years && aside.left[l] > 0; y++) {
            aside.passYear(0);
        }
        return aside.left[l] > 0;
    }

    /** Whether a mouse of the register aside goes, from there on, where a ROW says. */
    private boolean goesAsRow(int i, int r) {
        for (int y = 0; y < rowSizes[r]; y++) {
            aside.passYear(0);
            if (aside.places[i] != rows[r][y]) {
                return false;
            }
        }
        return true;
    }

    private int kindsThatFit(int i, int r) {
        int fit = 0;
        for (int kind = 0; kind < KINDS; kind++) {
            aside.takeFrom(now);
            aside.kinds[i] = kind;
            if (goesAsRow(i, r)) {
                fit |= 1 << kind;
            }
        }
        return fit;
    }

    private void followKinds(int i, int fit) {
        for (int y = 0; y < YEARS_TO_LOOK; y++) {
            for (int l = 0; l < LINES_MOST; l++) {
                whereKindsAre[y][l] = 0;
            }
        }
        for (int kind = 0; kind < KINDS; kind++) {
            if ((fit >> kind & 1) == 1) {
                followKind(i, kind);
            }
        }
    }

    private void followKind(int i, int kind) {
        aside.takeFrom(now);
        aside.kinds[i] = kind;
        for (int y = 0; y < YEARS_TO_LOOK; y++) {
            aside.passYear(0);
            whereKindsAre[y][aside.places[i]]++;
        }
    }

    private int greatestPart(int y) {
        int greatest = 0;
        for (int l = 0; l < LINES_MOST; l++) {
            greatest = Math.max(greatest, whereKindsAre[y][l]);
        }
        return greatest;
    }

    /**
     * What comes out of a register with so many turns to go; the first one's turn if they are even.
     * Branches that can't change what comes out between low and high are left out: all would be thousands.
     */
    private static int duelFrom(Register tried, Register end, int turns, int a, int b, int low, int high) {
        if (turns <= 0) {
            end.takeFrom(tried);
            end.passYear(0);
            return end.left[a] - end.left[b];
        }
        boolean isFirst = turns % 2 == 0;
        int best = duelFrom(tried, end, turns - 1, a, b, low, high);
        for (int l = 0; l < tried.lines; l++) {
            int lowNow = isFirst ? Math.max(low, best) : low;
            int highNow = isFirst ? high : Math.min(high, best);
            if (lowNow >= highNow) {
                break;
            }
            if (tried.cheeses[l] < CHEESE_MOST) {
                tried.cheeses[l]++;
                int got = duelFrom(tried, end, turns - 1, a, b, lowNow, highNow);
                tried.cheeses[l]--;
                best = isFirst ? Math.max(best, got) : Math.min(best, got);
            }
        }
        return best;
    }

    /** How many of allWeights() parts it is that just these mice sleep. */
    private long weightOf(int asleep, int p) {
        long weight = 1;
        for (int i = 0; i < now.mice; i++) {
            weight *= (asleep >> i & 1) == 1 ? p : SLEEP_PARTS - p;
        }
        return weight;
    }

    private long allWeights() {
        long all = 1;
        for (int i = 0; i < now.mice; i++) {
            all *= SLEEP_PARTS;
        }
        return all;
    }

    /** What was done, in order. */
    private static final class Deeds {
        int size = 0;
        final int[] whats = new int[DEEDS_MOST];
        final int[] lines = new int[DEEDS_MOST];
        final int[] amounts = new int[DEEDS_MOST];

        void add(int what, int line, int amount) {
            if (size >= 0 && size < DEEDS_MOST) {
                whats[size] = what;
                lines[size] = line;
                amounts[size] = amount;
                size++;
            }
        }

        void takeFrom(Deeds other) {
            size = other.size;
            for (int d = 0; d < size; d++) {
                whats[d] = other.whats[d];
                lines[d] = other.lines[d];
                amounts[d] = other.amounts[d];
            }
        }
    }

    /** Lines and mice, as they are at one time. */
    private static final class Register {
        int lines = 0;
        int mice = 0;
        int years = 0;
        int catAt = NONE;
        int waxed = 0;
        final int[] wrong = new int[LINES_MOST];
        final int[] letters = new int[LINES_MOST];
        final int[] left = new int[LINES_MOST];
        final int[] cheeses = new int[LINES_MOST];
        final int[] kinds = new int[MICE_MOST];
        final int[] teeth = new int[MICE_MOST];
        final int[] firstPlaces = new int[MICE_MOST];
        final int[] places = new int[MICE_MOST];

        void beginAnew() {
            years = 0;
            catAt = NONE;
            waxed = 0;
            for (int l = 0; l < lines; l++) {
                left[l] = letters[l];
                cheeses[l] = 0;
            }
            for (int i = 0; i < mice; i++) {
                places[i] = firstPlaces[i];
            }
        }

        void takeFrom(Register other) {
            lines = other.lines;
            mice = other.mice;
            years = other.years;
            catAt = other.catAt;
            waxed = other.waxed;
            for (int l = 0; l < lines; l++) {
                wrong[l] = other.wrong[l];
                letters[l] = other.letters[l];
                left[l] = other.left[l];
                cheeses[l] = other.cheeses[l];
            }
            for (int i = 0; i < mice; i++) {
                kinds[i] = other.kinds[i];
                teeth[i] = other.teeth[i];
                firstPlaces[i] = other.firstPlaces[i];
                places[i] = other.places[i];
            }
        }

        /** Does a deed: what the call of that deed answers. */
        int change(int what, int line, int amount) {
            switch (what) {
                case DEED_CHEESE:
                    cheeses[line] = Math.min(CHEESE_MOST, cheeses[line] + amount);
                    return cheeses[line];
                case DEED_CAT:
                    int was = catAt;
                    catAt = line;
                    return was;
                case DEED_WAX:
                    waxed ^= 1 << line;
                    return waxed >> line & 1;
                default:
                    return passYear(0);
            }
        }

        void passYears(int n) {
            for (int y = 0; y < n; y++) {
                passYear(0);
            }
        }

        /** A YEAR in which these mice (bits) sleep: how many LETTERS were eaten. */
        int passYear(int asleep) {
            int eatenInAll = 0;
            for (int i = 0; i < mice; i++) {
                int wanted = (asleep >> i & 1) == 1 ? NONE : lineWantedBy(i);
                if (wanted != NONE) {
                    int bite = Math.min(left[wanted], eatenInAYear(kinds[i], teeth[i]));
                    places[i] = wanted;
                    left[wanted] -= bite;
                    eatenInAll += bite;
                }
            }
            for (int l = 0; l < lines; l++) {
                cheeses[l] = Math.max(0, cheeses[l] - 1);
            }
            years++;
            return eatenInAll;
        }

        int lineWantedBy(int i) {
            int best = NONE;
            int most = 0;
            int nearest = 0;
            for (int l = 0; l < lines; l++) {
                if (isOpen(l)) {
                    int far = distance(i, l);
                    int liked = liking(kinds[i], wrong[l], cheeses[l], far);
                    if (liked > most || liked == most && best != NONE && far < nearest) {
                        best = l;
                        most = liked;
                        nearest = far;
                    }
                }
            }
            return best;
        }

        private boolean isOpen(int l) {
            return left[l] > 0 && (waxed >> l & 1) == 0 && catAt != l;
        }

        private int distance(int i, int l) {
            return Math.abs(places[i] - l);
        }

        int miceThatWant(int l) {
            int wanting = 0;
            for (int i = 0; i < mice; i++) {
                if (lineWantedBy(i) == l) {
                    wanting |= 1 << i;
                }
            }
            return wanting;
        }

        int linesLikedBy(int i) {
            int many = 0;
            for (int l = 0; l < lines; l++) {
                many += liking(kinds[i], wrong[l], cheeses[l], distance(i, l)) > 0 ? 1 : 0;
            }
            return many;
        }

        int linesLittleWrong() {
            int many = 0;
            for (int l = 0; l < lines; l++) {
                many += wrong[l] <= OLD_LEAVES ? 1 : 0;
            }
            return many;
        }

        int yearsToEatUpAlone(int i) {
            int bite = eatenInAYear(kinds[i], teeth[i]);
            return bite > 0 ? (left[places[i]] + bite - 1) / bite : 0;
        }

        int allCheese() {
            int all = 0;
            for (int l = 0; l < lines; l++) {
                all += cheeses[l];
            }
            return all;
        }

        int allLeft() {
            int all = 0;
            for (int l = 0; l < lines; l++) {
                all += left[l];
            }
            return all;
        }

        int leftTogether(int set) {
            int all = 0;
            for (int l = 0; l < lines; l++) {
                all += (set >> l & 1) == 1 ? left[l] : 0;
            }
            return all;
        }

        int linesEatenUp() {
            int up = 0;
            for (int l = 0; l < lines; l++) {
                up |= left[l] == 0 ? 1 << l : 0;
            }
            return up;
        }

        int miceOfKind(int kind) {
            int many = 0;
            for (int i = 0; i < mice; i++) {
                many += isOfKind(kinds[i], kind) ? 1 : 0;
            }
            return many;
        }
    }
}
