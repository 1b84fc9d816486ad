/** A sock that has been darned since the old king: each public call is one promise of the document. */
public final class DarnedSock {
    public static final int NONE = -1, BAD = -2, NO = -3, FULL = -4;

    private static final int CELLS = 9, PLACES = 3, KINDS = 6, FAMILIES = 3, LAWS = 4;
    private static final int MOST_WEAR = 5, MOST_THREAD = 30, SOCK_YEARS = 100, MOST_YEARS = 20, ODDS_YEARS = 8;
    private static final int MOST_UNDONE = 8, MOST_READINGS = 6, MOST_BYTES = 150, IMAGES = 2;
    /** Years that are looked at ahead, the present one among them. */
    private static final int SPAN = 41, READ_SPAN = 21;

    private static final int SILK = 1, SCRAP = 2, BLUE = 3, MOTHED = 4, LIEN = 5;
    private static final int OLD_BLUE = 10;
    private static final int BY_THREAD = 0, BY_CELLS = 1, BY_LINES = 2;

    /** A darn's numbers, in the order in which the calls and the digest tell them. */
    private static final int KIND = 0, FAMILY = 1, THREAD = 2, SINCE = 3, FIELDS = 4;
    /** Where the row of a sock has how many darns a cell has, and the year. */
    private static final int MANY = CELLS * PLACES * FIELDS, YEAR = MANY + CELLS, ROW = YEAR + 1;

    private static final int LINES = 8;
    private static final int[] LINE_CELLS = {
        0, 1, 2, 3, 4, 5, 6, 7, 8,
        0, 3, 6, 1, 4, 7, 2, 5, 8,
        0, 4, 8, 2, 4, 6
    };

    private static final int MOST_ORDERED = 6, TOO_FEW = -5, ORDERS_BAD = -10, ORDERS_NO = -20;
    private static final int FAULT_BASE = -10, ITEM_BASE = -1000;

    private static final int END = 0, WORD = 1, NUMBER = 2, STOP = 3, OTHER = 4;
    private static final int SOCK_WORD = 0, WEAR_WORD = 1, WORDS = 3, WORD_LENGTH = 4;
    private static final int[] WORD_LETTERS = {'s', 'o', 'c', 'k', 'w', 'e', 'a', 'r', 'd', 'a', 'r', 'n'};
    private static final int[] WORD_NUMBERS = {1, 2, 4};
    private static final int MOST_NUMBERS = 4, MOST_FIGURES = 2;
    /** No item is shorter than a word, a figure and the byte that ends it. */
    private static final int MOST_ITEMS = MOST_BYTES / (WORD_LENGTH + 2);

    private static final long DRAW_TIMES = 1103515245L, DRAW_MORE = 12345L, DRAW_LIMIT = 2147483648L;

    private final State now = new State();
    private final State[] images = new State[IMAGES];
    /** Years to come and texts are tried on this one, so that no call makes a sock of its own. */
    private final Sock trial = new Sock();
    private final Text text = new Text();
    private final int[] spans = new int[CELLS];
    private final int[] splitSpans = new int[CELLS * MOST_THREAD];
    private final int[] alike = new int[KINDS];
    private final int[] ordered = new int[MOST_ORDERED];
    private long above;
    private long below;
    private int bads;
    private int noes;
    private int fulls;

    public DarnedSock() {
        above = 0L;
        below = 1L;
    }

    // ---- a sock

    public int sock(int year) {
        if (!within(year, SOCK_YEARS)) return refuse(BAD);
        int had = now.sock.darns();
        now.renew(year);
        return had;
    }

    public int wear(int cell, int w) {
        if (!wearsAsTold(cell, w)) return refuse(BAD);
        int did = now.sock.wears[cell];
        now.sock.wears[cell] = w;
        return did;
    }

    public int darn(int cell, int kind, int family, int thread) {
        int verdict = now.sock.verdict(cell, kind, family, thread);
        if (verdict != 0) return refuse(verdict);
        now.keep();
        return now.sock.put(cell, kind, family, thread);
    }

    public int unpick(int cell) {
        if (!within(cell, CELLS)) return refuse(BAD);
        if (now.sock.isHole(cell)) return refuse(NO);
        now.keep();
        return now.sock.take(cell);
    }

    public int years(int n) {
        if (!between(n, 1, MOST_YEARS)) return refuse(BAD);
        for (int i = 0; i < n; i++) {
            now.keep();
            now.sock.pass();
        }
        return Integer.bitCount(now.sock.holeBits());
    }

    public int undo() {
        if (now.undoable <= 0) return refuse(NO);
        now.bringBack();
        return now.sock.darns();
    }

    public int type(int c) {
        if (!between(c, 0, 127)) return refuse(BAD);
        if (text.length >= MOST_BYTES) return refuse(FULL);
        text.bytes[text.length] = c;
        text.length++;
        return text.length;
    }

    public int clear() {
        int had = text.length;
        text.length = 0;
        return had;
    }

    public int read() {
        int fault = text.fault();
        if (fault != NONE) return FAULT_BASE - fault;
        int refused = text.refusedOn(trial);
        if (refused != NONE) return ITEM_BASE - refused;
        now.renew(0);
        now.sock.copy(trial);
        return text.items;
    }

    public int of(int cell, int place, int what) {
        if (!within(cell, CELLS) || !within(place, PLACES) || !between(what, 0, 5)) return refuse(BAD);
        if (place >= now.sock.many(cell)) return NONE;
        if (what == 4) return now.sock.counts(cell, place);
        if (what == 5) return loss(now.sock.get(cell, place, KIND), now.sock.wears[cell], now.sock.year());
        return now.sock.get(cell, place, what);
    }

    public int cell(int cell, int what) {
        if (!within(cell, CELLS) || !between(what, 0, 1)) return refuse(BAD);
        return what == 0 ? now.sock.wears[cell] : now.sock.many(cell);
    }

    // ---- whose it is

    public int claims(int family, int law) {
        if (!within(family, FAMILIES) || !within(law, LAWS)) return refuse(BAD);
        return now.sock.claimOf(family, law);
    }

    public int owner(int law, int m) {
        if (!within(law, LAWS) || !within(m, SPAN)) return refuse(BAD);
        tryYears(m);
        return trial.ownerBy(law);
    }

    public int laws(int family) {
        if (!within(family, FAMILIES)) return refuse(BAD);
        int bits = 0;
        for (int law = 0; law < LAWS; law++) {
            if (now.sock.ownerBy(law) == family) bits |= 1 << law;
        }
        return bits;
    }

    public int share(int family) {
        if (!within(family, FAMILIES)) return refuse(BAD);
        setFraction(now.sock.claimOf(family, BY_THREAD), now.sock.allClaims(BY_THREAD));
        return 1;
    }

    public int twos(int law) {
        if (!within(law, LAWS)) return refuse(BAD);
        trial.copy(now.sock);
        for (int m = 0; m < SPAN; m++) {
            if (trial.isTwos(law)) return m;
            trial.pass();
        }
        return NONE;
    }

    // ---- how long it lasts

    public int whole() {
        findSpans();
        return leastSpanBut(NONE, NONE);
    }

    public int holes(int m) {
        if (!within(m, SPAN)) return refuse(BAD);
        tryYears(m);
        return trial.holeBits();
    }

    public int best(int n, int kind, int what) {
        if (!between(n, 1, MOST_THREAD) || !within(kind, KINDS) || !between(what, 0, 1)) return refuse(BAD);
        findSpans();
        int which = NONE;
        int longest = NONE;
        for (int c = 0; c < CELLS; c++) {
            if (!now.sock.hasRoom(c)) continue;
            int lasts = Math.min(leastSpanBut(c, c), now.sock.span(c, kind, n));
            if (lasts > longest) {
                which = c;
                longest = lasts;
            }
        }
        return what == 0 ? which : longest;
    }

    public int split(int n, int kind, int what) {
        if (!between(n, 2, MOST_THREAD) || !within(kind, KINDS) || !between(what, 0, 2)) return refuse(BAD);
        findSpans();
        findSplitSpans(n, kind);
        int which = NONE;
        int first = NONE;
        int longest = NONE;
        for (int a = 0; a < CELLS; a++) {
            for (int b = a + 1; b < CELLS; b++) {
                if (!now.sock.hasRoom(a) || !now.sock.hasRoom(b)) continue;
                int others = leastSpanBut(a, b);
                int i = bestSplit(a, b, n, others);
                int lasts = splitSpan(a, b, n, i, others);
                if (lasts > longest) {
                    which = 10 * a + b;
                    first = i;
                    longest = lasts;
                }
            }
        }
        return what == 0 ? which : what == 1 ? first : longest;
    }

    // ---- what was seen

    public int reading(int cell, int m, int v) {
        if (!within(cell, CELLS) || !within(m, READ_SPAN) || !between(v, 0, MOST_THREAD)) return refuse(BAD);
        if (now.readings >= MOST_READINGS) return refuse(FULL);
        return now.addReading(cell, m, v);
    }

    public int forget() {
        int had = now.readings;
        now.readings = 0;
        return had;
    }

    public int may(int cell) {
        if (!within(cell, CELLS)) return refuse(BAD);
        return now.possibleKinds(cell);
    }

    public int look(int cell) {
        if (!within(cell, CELLS)) return refuse(BAD);
        int kinds = now.possibleKinds(cell);
        if (kinds == 0) return NONE;
        int when = NONE;
        int fewest = KINDS + 1;
        for (int m = 0; m < READ_SPAN; m++) {
            int most = mostAlike(cell, kinds, m);
            if (most < fewest) {
                when = m;
                fewest = most;
            }
        }
        return when;
    }

    public int orders(int cells, int i) {
        if (!within(cells, 1 << CELLS) || i < NONE) {
            refuse(BAD);
            return ORDERS_BAD;
        }
        int darns = now.sock.darnsOf(cells);
        if (darns > MOST_ORDERED) {
            refuse(NO);
            return ORDERS_NO;
        }
        if (i >= darns) return TOO_FEW;
        findFirstOrder(cells, darns);
        return i == NONE ? waysToOrder(darns) : ordered[i];
    }

    public int odds(int cell, int m, int c) {
        if (!within(cell, CELLS) || !between(m, 0, ODDS_YEARS) || !between(c, 0, 10)) return refuse(BAD);
        setFraction(now.sock.holeWays(cell, m, c), powerOfTen(m));
        return 1;
    }

    public int drawn(int seed, int m) {
        if (!between(seed, 0, 999999) || !between(m, 0, MOST_YEARS)) return refuse(BAD);
        trial.copy(now.sock);
        long x = seed;
        for (int i = 0; i < m; i++) {
            for (int c = 0; c < CELLS; c++) {
                x = (x * DRAW_TIMES + DRAW_MORE) % DRAW_LIMIT;
                trial.wears[c] = (int) (x / 65536L % 6L);
            }
            trial.pass();
        }
        return Integer.bitCount(trial.holeBits());
    }

    // ---- what there is

    public long part(int what) {
        if (!between(what, 0, 1)) return refuse(BAD);
        return what == 0 ? above : below;
    }

    public int image(int i) {
        if (!within(i, IMAGES)) return refuse(BAD);
        State image = images[i];
        if (image == null) {
            image = new State();
            images[i] = image;
        }
        image.copy(now);
        return 1;
    }

    public int from(int i) {
        if (!within(i, IMAGES)) return refuse(BAD);
        State image = images[i];
        if (image == null) return refuse(NO);
        now.copy(image);
        return 1;
    }

    public int status(int what) {
        switch (what) {
            case 0: return bads;
            case 1: return noes;
            case 2: return fulls;
            default:
                refuse(BAD);
                return -1;
        }
    }

    public int count(int what) {
        if (!between(what, 0, 5)) return refuse(BAD);
        return howMany(what);
    }

    public long digest() {
        long h = 1061L;
        for (int what = 0; what <= 5; what++) h = 31L * h + howMany(what);
        h = now.sock.digested(h);
        h = now.digestedReadings(h);
        h = 31L * h + above;
        return 31L * h + below;
    }

    // ---- what the calls share

    private static boolean within(int x, int limit) {
        return x >= 0 && x < limit;
    }

    private static boolean between(int x, int least, int most) {
        return x >= least && x <= most;
    }

    private static boolean wearsAsTold(int cell, int w) {
        return within(cell, CELLS) && between(w, 0, MOST_WEAR);
    }

    private int refuse(int answer) {
        if (answer == BAD) bads++;
        else if (answer == NO) noes++;
        else if (answer == FULL) fulls++;
        return answer;
    }

    private int howMany(int what) {
        switch (what) {
            case 0: return now.sock.darns();
            case 1: return Integer.bitCount(now.sock.holeBits());
            case 2: return now.sock.year();
            case 3: return now.readings;
            case 4: return now.undoable;
            default: return text.length;
        }
    }

    /** What a darn of a kind loses in a year in which it is the uppermost. */
    private static int loss(int kind, int w, int year) {
        switch (kind) {
            case SILK:
            case BLUE:
                return (w + 1) / 2;
            case SCRAP:
                return w + 1;
            case MOTHED:
                return year % 3 == 0 ? w + 1 : 2 * (w + 1);
            default:
                return w;
        }
    }

    private void tryYears(int m) {
        trial.copy(now.sock);
        for (int i = 0; i < m; i++) trial.pass();
    }

    private void setFraction(long up, long down) {
        if (up <= 0L || down <= 0L) {
            above = 0L;
            below = 1L;
            return;
        }
        long divisor = commonDivisor(up, down);
        above = up / divisor;
        below = down / divisor;
    }

    /** Of two numbers above 0; a hundred steps are more than any two longs need. */
    private static long commonDivisor(long a, long b) {
        for (int i = 0; i < 100 && b != 0L; i++) {
            long rest = a % b;
            a = b;
            b = rest;
        }
        return a > 0L ? a : 1L;
    }

    private static long powerOfTen(int n) {
        long power = 1L;
        for (int i = 0; i < n; i++) power *= 10L;
        return power;
    }

    /** Cells wear apart, so how long each one lasts is found once, and the sock lasts as long as the least. */
    private void findSpans() {
        for (int c = 0; c < CELLS; c++) spans[c] = now.sock.span(c, 0, 0);
    }

    private int leastSpanBut(int a, int b) {
        int least = SPAN;
        for (int c = 0; c < CELLS; c++) {
            if (c != a && c != b) least = Math.min(least, spans[c]);
        }
        return least;
    }

    private void findSplitSpans(int n, int kind) {
        for (int c = 0; c < CELLS; c++) {
            if (!now.sock.hasRoom(c)) continue;
            for (int i = 1; i < n; i++) splitSpans[c * MOST_THREAD + i] = now.sock.span(c, kind, i);
        }
    }

    private int splitSpan(int a, int b, int n, int i, int others) {
        int two = Math.min(splitSpans[a * MOST_THREAD + i], splitSpans[b * MOST_THREAD + n - i]);
        return Math.min(two, others);
    }

    /** The least i of those by which the sock lasts longest. */
    private int bestSplit(int a, int b, int n, int others) {
        int first = 1;
        for (int i = 2; i < n; i++) {
            if (splitSpan(a, b, n, i, others) > splitSpan(a, b, n, first, others)) first = i;
        }
        return first;
    }

    /** How many of the kinds, at most, have the same thread left behind m years. */
    private int mostAlike(int cell, int kinds, int m) {
        for (int k = 0; k < KINDS; k++) alike[k] = now.sock.leftOf(cell, k, m);
        int most = 0;
        for (int k = 0; k < KINDS; k++) {
            if ((kinds >> k & 1) == 0) continue;
            int same = 0;
            for (int other = 0; other < KINDS; other++) {
                if ((kinds >> other & 1) != 0 && alike[other] == alike[k]) same++;
            }
            most = Math.max(most, same);
        }
        return most;
    }

    /**
     * Darns of an earlier year come first, and in a cell no darn is older than the one under it: so the first
     * order is by years, then cells, then places.
     */
    private void findFirstOrder(int cells, int darns) {
        int found = 0;
        int last = NONE;
        for (int group = 0; group < MOST_ORDERED && found < darns; group++) {
            last = now.sock.nextYear(cells, last);
            for (int c = 0; c < CELLS; c++) {
                if ((cells >> c & 1) == 0) continue;
                for (int place = 0; place < now.sock.many(c); place++) {
                    if (now.sock.get(c, place, SINCE) != last || found >= MOST_ORDERED) continue;
                    ordered[found] = 10 * c + place;
                    found++;
                }
            }
        }
    }

    /** Only darns of one year can change places, and those of one cell can not: each year is a multinomial. */
    private int waysToOrder(int darns) {
        int ways = 1;
        int inYear = 0;
        int inCell = 0;
        for (int i = 0; i < darns && i < MOST_ORDERED; i++) {
            boolean sameYear = i > 0 && yearOrdered(i) == yearOrdered(i - 1);
            boolean sameCell = sameYear && ordered[i] / 10 == ordered[i - 1] / 10;
            inYear = sameYear ? inYear + 1 : 1;
            inCell = sameCell ? inCell + 1 : 1;
            ways = ways * inYear / inCell;
        }
        return ways;
    }

    private int yearOrdered(int i) {
        return now.sock.get(ordered[i] / 10, ordered[i] % 10, SINCE);
    }

    /** The cells with their darns, and the year. */
    private static final class Sock {
        final int[] wears = new int[CELLS];
        /** Darns, how many there are in each cell and the year stand in one row, so that undo keeps just that. */
        final int[] row = new int[ROW];
        final int[] claimed = new int[FAMILIES];

        Sock() {
            for (int c = 0; c < CELLS; c++) wears[c] = 1;
        }

        void renew(int year) {
            for (int c = 0; c < CELLS; c++) {
                wears[c] = 1;
                row[MANY + c] = 0;
            }
            row[YEAR] = year;
        }

        void copy(Sock other) {
            System.arraycopy(other.wears, 0, wears, 0, CELLS);
            System.arraycopy(other.row, 0, row, 0, ROW);
        }

        int year() {
            return row[YEAR];
        }

        int many(int cell) {
            return cell >= 0 && cell < CELLS ? row[MANY + cell] : 0;
        }

        int get(int cell, int place, int field) {
            if (cell < 0 || cell >= CELLS || place < 0 || place >= PLACES) return NONE;
            if (field < 0 || field >= FIELDS) return NONE;
            return row[(cell * PLACES + place) * FIELDS + field];
        }

        /** 0 where there is no such place, as there is under the lowest. */
        int threadAt(int cell, int place) {
            return within(place, PLACES) ? get(cell, place, THREAD) : 0;
        }

        boolean isHole(int cell) {
            return many(cell) <= 0;
        }

        boolean hasRoom(int cell) {
            return many(cell) < PLACES;
        }

        int darnsOf(int cells) {
            int darns = 0;
            for (int c = 0; c < CELLS; c++) {
                if ((cells >> c & 1) != 0) darns += many(c);
            }
            return darns;
        }

        int darns() {
            return darnsOf((1 << CELLS) - 1);
        }

        int holeBits() {
            int bits = 0;
            for (int c = 0; c < CELLS; c++) {
                if (isHole(c)) bits |= 1 << c;
            }
            return bits;
        }

        /** 0: the darn may be put in; else why it is refused. */
        int verdict(int cell, int kind, int family, int thread) {
            if (!within(cell, CELLS) || !within(kind, KINDS) || !within(family, FAMILIES)) return BAD;
            if (!between(thread, 1, MOST_THREAD)) return BAD;
            return hasRoom(cell) ? 0 : FULL;
        }

        int put(int cell, int kind, int family, int thread) {
            if (verdict(cell, kind, family, thread) != 0) return many(cell);
            int at = (cell * PLACES + row[MANY + cell]) * FIELDS;
            row[at + KIND] = kind;
            row[at + FAMILY] = family;
            row[at + THREAD] = thread;
            row[at + SINCE] = row[YEAR];
            row[MANY + cell]++;
            return row[MANY + cell];
        }

        int take(int cell) {
            if (isHole(cell)) return 0;
            row[MANY + cell]--;
            return get(cell, row[MANY + cell], THREAD);
        }

        void pass() {
            for (int c = 0; c < CELLS; c++) {
                if (!isHole(c)) wearTop(c);
            }
            row[YEAR]++;
        }

        private void wearTop(int cell) {
            int place = row[MANY + cell] - 1;
            int left = threadAt(cell, place) - loss(get(cell, place, KIND), wears[cell], row[YEAR]);
            if (left > 0) row[(cell * PLACES + place) * FIELDS + THREAD] = left;
            else row[MANY + cell]--;
        }

        int counts(int cell, int place) {
            int counted = 0;
            for (int p = 0; p <= place && p < PLACES; p++) counted = countsOver(counted, cell, p);
            return counted;
        }

        /** What a darn counts over one that counts so much (0: there is none). */
        private int countsOver(int under, int cell, int place) {
            int thread = get(cell, place, THREAD);
            switch (get(cell, place, KIND)) {
                case SILK:
                    return 2 * thread;
                case SCRAP:
                case MOTHED:
                    return thread / 2;
                case BLUE:
                    return row[YEAR] - get(cell, place, SINCE) >= OLD_BLUE ? 2 * thread + 3 : 2 * thread;
                case LIEN:
                    return thread + under / 2;
                default:
                    return thread;
            }
        }

        /** Fills the row of what the families claim. */
        void weigh(int law) {
            for (int family = 0; family < FAMILIES; family++) claimed[family] = 0;
            switch (law) {
                case BY_THREAD:
                    weighThread();
                    break;
                case BY_CELLS:
                    for (int c = 0; c < CELLS; c++) addClaim(topFamily(c), 1);
                    break;
                case BY_LINES:
                    for (int line = 0; line < LINES; line++) addClaim(lineFamily(line), 1);
                    break;
                default:
                    weighAges();
            }
        }

        private void addClaim(int family, int more) {
            if (family >= 0 && family < FAMILIES) claimed[family] += more;
        }

        private void weighThread() {
            for (int c = 0; c < CELLS; c++) {
                int counted = 0;
                for (int place = 0; place < many(c); place++) {
                    counted = countsOver(counted, c, place);
                    addClaim(get(c, place, FAMILY), counted);
                }
            }
        }

        private void weighAges() {
            for (int c = 0; c < CELLS; c++) {
                for (int place = 0; place < many(c); place++) {
                    int family = get(c, place, FAMILY);
                    int age = row[YEAR] - get(c, place, SINCE) + 1;
                    if (within(family, FAMILIES)) claimed[family] = Math.max(claimed[family], age);
                }
            }
        }

        /** The family of which all three cells of a line are; NONE: of no one. */
        private int lineFamily(int line) {
            if (!within(line, LINES)) return NONE;
            int family = topFamily(LINE_CELLS[3 * line]);
            int second = topFamily(LINE_CELLS[3 * line + 1]);
            int third = topFamily(LINE_CELLS[3 * line + 2]);
            return family == second && family == third ? family : NONE;
        }

        private int topFamily(int cell) {
            int darns = many(cell);
            return darns <= 0 ? NONE : get(cell, darns - 1, FAMILY);
        }

        int claimOf(int family, int law) {
            weigh(law);
            return within(family, FAMILIES) ? claimed[family] : 0;
        }

        int allClaims(int law) {
            weigh(law);
            int all = 0;
            for (int family = 0; family < FAMILIES; family++) all += claimed[family];
            return all;
        }

        int ownerBy(int law) {
            weigh(law);
            int owner = NONE;
            int most = 0;
            for (int family = 0; family < FAMILIES; family++) {
                if (claimed[family] == most) owner = NONE;
                if (claimed[family] > most) {
                    owner = family;
                    most = claimed[family];
                }
            }
            return owner;
        }

        boolean isTwos(int law) {
            return ownerBy(law) == NONE && allClaims(law) > 0;
        }

        /** Behind how many years the cell is a hole, with a thread put over it now (of 0: with none); SPAN: later. */
        int span(int cell, int kind, int thread) {
            if (!within(cell, CELLS)) return 0;
            int under = many(cell) - 1;
            int topKind = kind;
            int left = thread;
            for (int m = 0; m < SPAN; m++) {
                if (left <= 0) {
                    if (under < 0) return m;
                    topKind = get(cell, under, KIND);
                    left = threadAt(cell, under);
                    under--;
                }
                left -= loss(topKind, wears[cell], row[YEAR] + m);
            }
            return SPAN;
        }

        /** Thread of the uppermost darn behind m years, were it of that kind. */
        int leftOf(int cell, int kind, int m) {
            if (isHole(cell)) return 0;
            int left = threadAt(cell, many(cell) - 1);
            for (int i = 0; i < m && left > 0; i++) left -= loss(kind, wears[cell], row[YEAR] + i);
            return Math.max(left, 0);
        }

        /** Of the ten ways of each of m years, those by which the cell is a hole at last. */
        long holeWays(int cell, int m, int c) {
            int top = many(cell) - 1;
            return waysFrom(cell, top, threadAt(cell, top), m, row[YEAR], c);
        }

        /** The years that are left bound how deep it goes. */
        private long waysFrom(int cell, int place, int thread, int left, int year, int c) {
            if (place < 0) return powerOfTen(left);
            if (!between(left, 1, ODDS_YEARS) || !within(cell, CELLS)) return 0L;
            int rest = thread - loss(get(cell, place, KIND), wears[cell], year);
            long worn = rest > 0
                ? waysFrom(cell, place, rest, left - 1, year + 1, c)
                : waysFrom(cell, place - 1, threadAt(cell, place - 1), left - 1, year + 1, c);
            long unworn = waysFrom(cell, place, thread, left - 1, year + 1, c);
            return c * worn + (10 - c) * unworn;
        }

        /** The first year behind the last in which a darn of the cells was put in; the last, if there is none. */
        int nextYear(int cells, int last) {
            int next = last;
            for (int c = 0; c < CELLS; c++) {
                if ((cells >> c & 1) == 0) continue;
                for (int place = 0; place < many(c); place++) {
                    int since = get(c, place, SINCE);
                    if (since > last && (next == last || since < next)) next = since;
                }
            }
            return next;
        }

        long digested(long h) {
            for (int c = 0; c < CELLS; c++) {
                h = 31L * h + wears[c];
                h = 31L * h + many(c);
                for (int place = 0; place < many(c); place++) {
                    for (int field = 0; field < FIELDS; field++) h = 31L * h + get(c, place, field);
                }
            }
            return h;
        }
    }

    /** All that an image keeps: the sock, what was read of it, what may be undone. */
    private static final class State {
        final Sock sock = new Sock();
        /** Cell, years and thread of each reading. */
        final int[] seen = new int[MOST_READINGS * 3];
        int readings;
        /** Rows of socks in a ring: the newest takes the place of the oldest. */
        final int[] kept = new int[MOST_UNDONE * ROW];
        int newest;
        int undoable;

        void renew(int year) {
            sock.renew(year);
            readings = 0;
            undoable = 0;
        }

        void copy(State other) {
            sock.copy(other.sock);
            System.arraycopy(other.seen, 0, seen, 0, MOST_READINGS * 3);
            System.arraycopy(other.kept, 0, kept, 0, MOST_UNDONE * ROW);
            readings = other.readings;
            newest = other.newest;
            undoable = other.undoable;
        }

        void keep() {
            newest = (newest + 1) % MOST_UNDONE;
            System.arraycopy(sock.row, 0, kept, newest * ROW, ROW);
            undoable = Math.min(undoable + 1, MOST_UNDONE);
        }

        void bringBack() {
            if (undoable <= 0) return;
            System.arraycopy(kept, newest * ROW, sock.row, 0, ROW);
            newest = (newest + MOST_UNDONE - 1) % MOST_UNDONE;
            undoable--;
        }

        int addReading(int cell, int m, int v) {
            if (readings >= MOST_READINGS) return readings;
            seen[3 * readings] = cell;
            seen[3 * readings + 1] = m;
            seen[3 * readings + 2] = v;
            readings++;
            return readings;
        }

        int possibleKinds(int cell) {
            if (sock.isHole(cell)) return 0;
            int bits = 0;
            for (int kind = 0; kind < KINDS; kind++) {
                if (agrees(cell, kind)) bits |= 1 << kind;
            }
            return bits;
        }

        private boolean agrees(int cell, int kind) {
            for (int i = 0; i < readings; i++) {
                if (seen[3 * i] != cell) continue;
                if (sock.leftOf(cell, kind, seen[3 * i + 1]) != seen[3 * i + 2]) return false;
            }
            return true;
        }

        long digestedReadings(long h) {
            for (int i = 0; i < 3 * readings; i++) h = 31L * h + seen[i];
            return h;
        }
    }

    /** A sock told by bytes: the token that is met, and the items that the tokens make. */
    private static final class Text {
        final int[] bytes = new int[MOST_BYTES];
        int length;
        final int[] words = new int[MOST_ITEMS];
        final int[] numbers = new int[MOST_ITEMS * MOST_NUMBERS];
        int items;
        /** The token: its sort, its first byte, the first byte behind it, and which word or number it is. */
        int sort;
        int at;
        int behind;
        int value;

        /** The place of the fault; NONE: the items stand in their rows. */
        int fault() {
            items = 0;
            behind = 0;
            step();
            for (int i = 0; i < MOST_ITEMS; i++) {
                if (!takeItem()) return at;
                step();
                if (sort == END) return NONE;
            }
            return at;
        }

        /** False where the token that is met can not stand; the end of the bytes is such a one, too. */
        private boolean takeItem() {
            if (items >= MOST_ITEMS || sort != WORD || !within(value, WORDS)) return false;
            if ((value == SOCK_WORD) != (items == 0)) return false;
            words[items] = value;
            int wanted = WORD_NUMBERS[value];
            for (int j = 0; j < wanted && j < MOST_NUMBERS; j++) {
                step();
                if (sort != NUMBER) return false;
                numbers[items * MOST_NUMBERS + j] = value;
            }
            step();
            if (sort != STOP) return false;
            items++;
            return true;
        }

        private void step() {
            at = behind;
            while (at < length && at < MOST_BYTES && bytes[at] == ' ') at++;
            behind = at;
            sort = END;
            if (at >= length || at >= MOST_BYTES) return;
            if (isLetter(bytes[at])) takeWord();
            else if (isFigure(bytes[at])) takeNumber();
            else {
                sort = bytes[at] == ';' ? STOP : OTHER;
                behind = at + 1;
            }
        }

        private void takeWord() {
            while (behind < length && behind < MOST_BYTES && isLetter(bytes[behind])) behind++;
            sort = OTHER;
            for (int word = 0; word < WORDS; word++) {
                if (!spells(word)) continue;
                sort = WORD;
                value = word;
            }
        }

        private boolean spells(int word) {
            if (!within(word, WORDS) || behind - at != WORD_LENGTH) return false;
            for (int j = 0; j < WORD_LENGTH && at + j < MOST_BYTES; j++) {
                if (bytes[at + j] != WORD_LETTERS[WORD_LENGTH * word + j]) return false;
            }
            return true;
        }

        private void takeNumber() {
            value = 0;
            while (behind < length && behind < MOST_BYTES && isFigure(bytes[behind])) {
                if (behind - at < MOST_FIGURES) value = 10 * value + bytes[behind] - '0';
                behind++;
            }
            sort = behind - at > MOST_FIGURES ? OTHER : NUMBER;
        }

        private static boolean isLetter(int b) {
            return between(b, 'a', 'z');
        }

        private static boolean isFigure(int b) {
            return between(b, '0', '9');
        }

        /** The first item that is refused when all are told to a sock; NONE: it is the one they tell. */
        int refusedOn(Sock sock) {
            for (int i = 0; i < items && i < MOST_ITEMS; i++) {
                if (!isToldTo(sock, i)) return i;
            }
            return NONE;
        }

        private boolean isToldTo(Sock sock, int item) {
            int first = item * MOST_NUMBERS;
            int a = numbers[first];
            int b = numbers[first + 1];
            switch (words[item]) {
                case SOCK_WORD:
                    if (!within(a, SOCK_YEARS)) return false;
                    sock.renew(a);
                    return true;
                case WEAR_WORD:
                    if (!wearsAsTold(a, b)) return false;
                    sock.wears[a] = b;
                    return true;
                default:
                    if (sock.verdict(a, b, numbers[first + 2], numbers[first + 3]) != 0) return false;
                    sock.put(a, b, numbers[first + 2], numbers[first + 3]);
                    return true;
            }
        }
    }
}
