import java.util.Arrays;

/** Sets of numbers kept in pieces, as the numbered promises of the document tell them. */
public final class PieceSets {
    public static final int BAD = -1;
    public static final int FULL = -3;
    public static final int NONE = -9;

    private static final int SETS = 6;
    private static final int NUMBERS = 4096;
    private static final int PIECES = 16;
    private static final int PLACES = 256;
    private static final int WORDS = 64;
    private static final int WORDS_OF_PIECE = 4;

    private static final int KINDS = 3;
    private static final int ARRAY = 0;
    private static final int RUNS = 1;
    private static final int BITMAP = 2;
    private static final int BITMAP_COST = 33;

    private static final int BOTH = 0;
    private static final int EITHER = 1;
    private static final int JUST_ONE = 2;
    private static final int FIRST_ALONE = 3;

    private static final int HISTORY = 5;
    private static final int BUFFER = 200;
    private static final int MOST_SCATTERED = 300;

    private State now;
    private final State[] past;
    private int kept;
    private final Buffer buffer;
    // Made once and used again, so that no call makes an object.
    private final Numbers scratch;

    public PieceSets() {
        now = new State();
        past = new State[HISTORY];
        for (int i = 0; i < HISTORY; i++) {
            past[i] = new State();
        }
        kept = 0;
        buffer = new Buffer();
        scratch = new Numbers();
    }

    // ---- changing sets

    public int add(int s, int from, int to) {
        if (!isSet(s) || !isRange(from, to)) {
            return BAD;
        }
        Numbers before = keepState().sets[s];
        Numbers set = now.sets[s];
        set.includeAll(from, to);
        now.countConversions(before, set);
        return set.count() - before.count();
    }

    public int remove(int s, int from, int to) {
        if (!isSet(s) || !isRange(from, to)) {
            return BAD;
        }
        Numbers before = keepState().sets[s];
        Numbers set = now.sets[s];
        set.excludeAll(from, to);
        now.countConversions(before, set);
        return before.count() - set.count();
    }

    public int flip(int s, int from, int to) {
        if (!isSet(s) || !isRange(from, to)) {
            return BAD;
        }
        Numbers before = keepState().sets[s];
        Numbers set = now.sets[s];
        set.turnAll(from, to);
        now.countConversions(before, set);
        return set.countIn(from, to);
    }

    public int scatter(int s, int seed, int many) {
        if (!isSet(s) || many < 1 || many > MOST_SCATTERED) {
            return BAD;
        }
        Numbers before = keepState().sets[s];
        Numbers set = now.sets[s];
        int x = seed;
        for (int i = 0; i < many; i++) {
            x = 1103515245 * x + 12345;
            set.include((x >>> 16) % NUMBERS);
        }
        now.countConversions(before, set);
        return set.count();
    }

    public int combine(int op, int s, int t, int u) {
        if (op < BOTH || op > FIRST_ALONE || !isSet(s) || !isSet(t) || !isSet(u)) {
            return BAD;
        }
        // The state before stands apart, so u may be s or t.
        State before = keepState();
        Numbers set = now.sets[u];
        set.becomeJoin(op, before.sets[s], before.sets[t]);
        now.countMeetings(before.sets[s], before.sets[t]);
        now.countConversions(before.sets[u], set);
        return set.count();
    }

    public int shift(int s, int by) {
        if (!isSet(s) || by <= -NUMBERS || by >= NUMBERS) {
            return BAD;
        }
        Numbers before = keepState().sets[s];
        Numbers set = now.sets[s];
        set.becomeMoved(before, by);
        now.countConversions(before, set);
        return before.count() - set.count();
    }

    // ---- numbers of a set

    public int size(int s) {
        if (!isSet(s)) {
            return BAD;
        }
        return now.sets[s].count();
    }

    public int contains(int s, int x) {
        if (!isSet(s)) {
            return BAD;
        }
        return now.sets[s].holds(x) ? 1 : 0;
    }

    public int rank(int s, int x) {
        if (!isSet(s)) {
            return BAD;
        }
        return now.sets[s].countIn(0, x);
    }

    public int select(int s, int i) {
        if (!isSet(s) || i < 0) {
            return BAD;
        }
        return now.sets[s].nth(i);
    }

    public int near(int s, int x, boolean up) {
        if (!isSet(s)) {
            return BAD;
        }
        Numbers set = now.sets[s];
        if (!up) {
            return set.nth(set.countIn(0, x) - 1);
        }
        // x - 1 would overflow for the smallest int.
        return set.nth(x <= 0 ? 0 : set.countIn(0, x - 1));
    }

    public int runs(int s) {
        if (!isSet(s)) {
            return BAD;
        }
        return now.sets[s].countRuns(0, PIECES);
    }

    public int run(int s, int i) {
        if (!isSet(s) || i < 0) {
            return BAD;
        }
        int first = nthEdge(now.sets[s], 1, i);
        int last = nthEdge(now.sets[s], -1, i);
        if (first == NONE || last == NONE) {
            return NONE;
        }
        return NUMBERS * first + last;
    }

    // ---- pieces, bytes

    public int piece(int s, int p, int what) {
        if (!isSet(s) || p < 0 || p >= PIECES) {
            return BAD;
        }
        return now.sets[s].detail(p, what);
    }

    public int bytes(int s) {
        if (!isSet(s)) {
            return BAD;
        }
        int total = 0;
        for (int p = 0; p < PIECES; p++) {
            total += now.sets[s].costOf(p);
        }
        return total;
    }

    public int byteAt(int s, int i) {
        if (!isSet(s) || i < 0) {
            return BAD;
        }
        Numbers set = now.sets[s];
        int left = i;
        for (int p = 0; p < PIECES; p++) {
            int cost = set.costOf(p);
            if (left < cost) {
                return set.writtenByte(p, left);
            }
            left -= cost;
        }
        return NONE;
    }

    public int put(int b) {
        if (b < 0 || b > 255) {
            return BAD;
        }
        return buffer.append(b) ? buffer.length : FULL;
    }

    public int clear() {
        int had = buffer.length;
        buffer.length = 0;
        return had;
    }

    public int read(int s) {
        if (!isSet(s)) {
            return BAD;
        }
        int fault = buffer.parse(scratch);
        if (fault >= 0) {
            return -100 - fault;
        }
        Numbers before = keepState().sets[s];
        Numbers set = now.sets[s];
        set.become(scratch);
        now.countConversions(before, set);
        buffer.length = 0;
        return set.count();
    }

    // ---- comparing

    public int compare(int s, int t, int what) {
        if (!isSet(s) || !isSet(t)) {
            return BAD;
        }
        switch (what) {
            case 0:
                return countJoin(BOTH, s, t);
            case 1:
                return countJoin(JUST_ONE, s, t);
            case 2:
                return countJoin(FIRST_ALONE, s, t) == 0 ? 1 : 0;
            case 3:
                return countSamePieces(s, t);
            case 4:
                scratch.becomeJoin(JUST_ONE, now.sets[s], now.sets[t]);
                return scratch.nth(0);
            default:
                return BAD;
        }
    }

    public int alike(int s, int t, boolean below) {
        if (!isSet(s) || !isSet(t)) {
            return BAD;
        }
        int both = countJoin(BOTH, s, t);
        int either = countJoin(EITHER, s, t);
        int divisor = greatestDivisor(either, both);
        if (divisor == 0) {
            // Both sets are empty: 1 / 1.
            return 1;
        }
        return (below ? either : both) / divisor;
    }

    // ---- counts

    public int met(int a, int b) {
        if (!isKind(a) || !isKind(b)) {
            return BAD;
        }
        return now.meetings[KINDS * a + b];
    }

    public int converted(int from, int to) {
        if (!isKind(from) || !isKind(to) || from == to) {
            return BAD;
        }
        return now.conversions[KINDS * from + to];
    }

    // ---- history

    public int undo() {
        if (kept < 1 || kept > HISTORY) {
            return NONE;
        }
        kept--;
        State undone = now;
        now = past[kept];
        past[kept] = undone;
        return kept;
    }

    public long fingerprint() {
        long print = 163;
        for (int s = 0; s < SETS; s++) {
            print = printPieces(print, now.sets[s]);
        }
        for (int pair = 0; pair < KINDS * KINDS; pair++) {
            print = 31 * print + now.meetings[pair];
        }
        for (int pair = 0; pair < KINDS * KINDS; pair++) {
            if (pair / KINDS != pair % KINDS) {
                print = 31 * print + now.conversions[pair];
            }
        }
        for (int s = 0; s < SETS; s++) {
            print = printNumbers(print, now.sets[s]);
        }
        return print;
    }

    // ---- what the calls above share

    private static boolean isSet(int s) {
        return s >= 0 && s < SETS;
    }

    private static boolean isNumber(int x) {
        return x >= 0 && x < NUMBERS;
    }

    private static boolean isRange(int from, int to) {
        return isNumber(from) && isNumber(to) && from <= to;
    }

    private static boolean isKind(int kind) {
        return kind >= 0 && kind < KINDS;
    }

    /** Adds the present state to the history; what it answers is that copy, the state before the act. */
    private State keepState() {
        if (kept >= HISTORY) {
            State oldest = past[0];
            for (int i = 1; i < HISTORY; i++) {
                past[i - 1] = past[i];
            }
            past[HISTORY - 1] = oldest;
            kept = HISTORY - 1;
        }
        State before = past[kept];
        before.become(now);
        kept++;
        return before;
    }

    /** With by = 1 the first number of the i-th run, with by = -1 its last one; NONE if there are not so many. */
    private int nthEdge(Numbers set, int by, int i) {
        // A run begins (ends) where moving the set up (down) by one leaves a number uncovered.
        scratch.becomeMoved(set, by);
        scratch.becomeJoin(FIRST_ALONE, set, scratch);
        return scratch.nth(i);
    }

    private int countJoin(int op, int s, int t) {
        scratch.becomeJoin(op, now.sets[s], now.sets[t]);
        return scratch.count();
    }

    private int countSamePieces(int s, int t) {
        scratch.becomeJoin(JUST_ONE, now.sets[s], now.sets[t]);
        int same = 0;
        for (int p = 0; p < PIECES; p++) {
            if (scratch.countInPiece(p) == 0) {
                same++;
            }
        }
        return same;
    }

    private static int greatestDivisor(int a, int b) {
        int high = a;
        int low = b;
        // Euclid's steps halve the numbers every second time: 4096 needs fewer than 64.
        for (int step = 0; step < 64 && low != 0; step++) {
            int rest = high % low;
            high = low;
            low = rest;
        }
        return high;
    }

    private static long printPieces(long start, Numbers set) {
        long print = 31 * start + set.count();
        for (int p = 0; p < PIECES; p++) {
            if (set.countInPiece(p) > 0) {
                print = 31 * print + p;
                for (int what = 0; what < 4; what++) {
                    print = 31 * print + set.detail(p, what);
                }
            }
        }
        return print;
    }

    private static long printNumbers(long start, Numbers set) {
        long print = start;
        for (int w = 0; w < WORDS; w++) {
            long word = set.words[w];
            for (int bit = 0; bit < 64 && word != 0; bit++) {
                if ((word >>> bit & 1) != 0) {
                    print = 31 * print + 64 * w + bit;
                }
            }
        }
        return print;
    }

    /** All that an act may change and that undo() restores. */
    private static final class State {
        private final Numbers[] sets;
        private final int[] meetings;
        private final int[] conversions;

        private State() {
            sets = new Numbers[SETS];
            for (int s = 0; s < SETS; s++) {
                sets[s] = new Numbers();
            }
            meetings = new int[KINDS * KINDS];
            conversions = new int[KINDS * KINDS];
        }

        private void become(State other) {
            for (int s = 0; s < SETS; s++) {
                sets[s].become(other.sets[s]);
            }
            System.arraycopy(other.meetings, 0, meetings, 0, KINDS * KINDS);
            System.arraycopy(other.conversions, 0, conversions, 0, KINDS * KINDS);
        }

        private void countMeetings(Numbers first, Numbers second) {
            for (int p = 0; p < PIECES; p++) {
                int a = first.kindOf(p);
                int b = second.kindOf(p);
                if (isKind(a) && isKind(b)) {
                    meetings[KINDS * a + b]++;
                }
            }
        }

        private void countConversions(Numbers before, Numbers after) {
            for (int p = 0; p < PIECES; p++) {
                int from = before.kindOf(p);
                int to = after.kindOf(p);
                if (isKind(from) && isKind(to) && from != to) {
                    conversions[KINDS * from + to]++;
                }
            }
        }
    }

    /** The numbers of one set, a bit each; the kinds of its pieces follow from them and need not be held. */
    private static final class Numbers {
        private final long[] words;

        private Numbers() {
            words = new long[WORDS];
        }

        private void become(Numbers other) {
            System.arraycopy(other.words, 0, words, 0, WORDS);
        }

        private void becomeEmpty() {
            Arrays.fill(words, 0L);
        }

        private void becomeJoin(int op, Numbers first, Numbers second) {
            for (int w = 0; w < WORDS; w++) {
                words[w] = join(op, first.words[w], second.words[w]);
            }
        }

        private static long join(int op, long a, long b) {
            switch (op) {
                case BOTH:
                    return a & b;
                case EITHER:
                    return a | b;
                case JUST_ONE:
                    return a ^ b;
                default:
                    return a & ~b;
            }
        }

        /** The source must be another object: its words are read after some of these are written. */
        private void becomeMoved(Numbers source, int by) {
            for (int w = 0; w < WORDS; w++) {
                int start = 64 * w - by;
                int bit = start & 63;
                long low = source.wordAt(start >> 6) >>> bit;
                // Java takes a shift by 64 for one by 0.
                long high = bit == 0 ? 0L : source.wordAt((start >> 6) + 1) << (64 - bit);
                words[w] = low | high;
            }
        }

        private long wordAt(int w) {
            return w >= 0 && w < WORDS ? words[w] : 0L;
        }

        private void include(int x) {
            if (isNumber(x)) {
                words[x >> 6] |= 1L << (x & 63);
            }
        }

        private boolean holds(int x) {
            return isNumber(x) && (words[x >> 6] >>> (x & 63) & 1L) != 0L;
        }

        private void includeAll(int from, int to) {
            for (int w = 0; w < WORDS; w++) {
                words[w] |= mask(w, from, to);
            }
        }

        private void excludeAll(int from, int to) {
            for (int w = 0; w < WORDS; w++) {
                words[w] &= ~mask(w, from, to);
            }
        }

        private void turnAll(int from, int to) {
            for (int w = 0; w < WORDS; w++) {
                words[w] ^= mask(w, from, to);
            }
        }

        /** The bits of word w whose numbers are at least from and at most to, which may be any ints. */
        private static long mask(int w, int from, int to) {
            int low = Math.max(from, 64 * w);
            int high = Math.min(to, 64 * w + 63);
            if (low > high) {
                return 0L;
            }
            return -1L << (low & 63) & -1L >>> (63 - (high & 63));
        }

        private int count() {
            int total = 0;
            for (int p = 0; p < PIECES; p++) {
                total += countInPiece(p);
            }
            return total;
        }

        private int countInPiece(int p) {
            int total = 0;
            for (int k = 0; k < WORDS_OF_PIECE; k++) {
                total += Long.bitCount(wordAt(WORDS_OF_PIECE * p + k));
            }
            return total;
        }

        private int countIn(int from, int to) {
            int total = 0;
            for (int w = 0; w < WORDS; w++) {
                total += Long.bitCount(words[w] & mask(w, from, to));
            }
            return total;
        }

        /** The runs of some pieces that follow one another, cut off where the first one begins and the last one ends. */
        private int countRuns(int p, int pieces) {
            int total = 0;
            long carry = 0L;
            for (int k = 0; k < WORDS_OF_PIECE * pieces; k++) {
                long word = wordAt(WORDS_OF_PIECE * p + k);
                total += Long.bitCount(word & ~(word << 1 | carry));
                carry = word >>> 63;
            }
            return total;
        }

        /** The number with index i in ascending order; NONE if there is none. */
        private int nth(int i) {
            if (i < 0) {
                return NONE;
            }
            int left = i;
            for (int w = 0; w < WORDS; w++) {
                int here = Long.bitCount(words[w]);
                if (left < here) {
                    return 64 * w + nthBit(words[w], left);
                }
                left -= here;
            }
            return NONE;
        }

        private static int nthBit(long word, int i) {
            int left = i;
            for (int bit = 0; bit < 64; bit++) {
                if ((word >>> bit & 1L) != 0L) {
                    if (left == 0) {
                        return bit;
                    }
                    left--;
                }
            }
            return NONE;
        }

        private int kindOf(int p) {
            int n = countInPiece(p);
            if (n == 0) {
                return NONE;
            }
            int asArray = 2 + n;
            int asRuns = 2 + 2 * countRuns(p, 1);
            if (asArray <= asRuns && asArray <= BITMAP_COST) {
                return ARRAY;
            }
            return asRuns <= BITMAP_COST ? RUNS : BITMAP;
        }

        private int costOf(int p) {
            switch (kindOf(p)) {
                case ARRAY:
                    return 2 + countInPiece(p);
                case RUNS:
                    return 2 + 2 * countRuns(p, 1);
                case BITMAP:
                    return BITMAP_COST;
                default:
                    return 0;
            }
        }

        private int detail(int p, int what) {
            switch (what) {
                case 0:
                    return kindOf(p);
                case 1:
                    return countInPiece(p);
                case 2:
                    return countRuns(p, 1);
                case 3:
                    return costOf(p);
                default:
                    return BAD;
            }
        }

        /** The byte with index k of those with which piece p, which has numbers, is written. */
        private int writtenByte(int p, int k) {
            int kind = kindOf(p);
            if (k == 0) {
                return 4 * p + kind;
            }
            if (kind == BITMAP) {
                return bitmapByte(p, k - 1);
            }
            if (k == 1) {
                return kind == ARRAY ? countInPiece(p) : countRuns(p, 1);
            }
            return kind == ARRAY ? nthPlace(p, k - 2) : nthBorder(p, k - 2);
        }

        private int bitmapByte(int p, int k) {
            return (int) (wordAt(WORDS_OF_PIECE * p + k / 8) >>> (8 * (k % 8)) & 255L);
        }

        private int nthPlace(int p, int i) {
            return nth(countIn(0, PLACES * p - 1) + i) - PLACES * p;
        }

        /** The i-th of the first and last places of the runs of piece p, as they are written. */
        private int nthBorder(int p, int i) {
            int left = i;
            for (int place = 0; place < PLACES; place++) {
                int x = PLACES * p + place;
                if (holds(x)) {
                    if (place == 0 || !holds(x - 1)) {
                        if (left == 0) {
                            return place;
                        }
                        left--;
                    }
                    if (place == PLACES - 1 || !holds(x + 1)) {
                        if (left == 0) {
                            return place;
                        }
                        left--;
                    }
                }
            }
            return NONE;
        }
    }

    /** The bytes from which a set can be read. */
    private static final class Buffer {
        private final int[] row;
        private int length;

        private Buffer() {
            row = new int[BUFFER];
            length = 0;
        }

        private boolean append(int b) {
            if (length < 0 || length >= BUFFER) {
                return false;
            }
            row[length] = b;
            length++;
            return true;
        }

        /** Makes a set that of the bytes; the error place if there is one (the set is of no use then), otherwise NONE. */
        private int parse(Numbers set) {
            set.becomeEmpty();
            int at = 0;
            int before = -1;
            // Pieces ascend, so the loop meets one byte at most that begins a piece too many.
            for (int i = 0; i <= PIECES && at < length; i++) {
                int p = row[at] / 4;
                int kind = row[at] % 4;
                if (p >= PIECES || !isKind(kind) || p <= before) {
                    return at;
                }
                int end = parsePiece(p, kind, at + 1, set);
                if (end < 0) {
                    return -1 - end;
                }
                if (set.kindOf(p) != kind) {
                    return at;
                }
                before = p;
                at = end;
            }
            return NONE;
        }

        /** The index behind the piece; -1 minus the error place if it has one, as for the three below. */
        private int parsePiece(int p, int kind, int at, Numbers set) {
            if (kind == BITMAP) {
                return parseBitmap(p, at, set);
            }
            if (at >= length) {
                return -1 - length;
            }
            if (row[at] < 1) {
                return -1 - at;
            }
            return kind == ARRAY ? parseArray(p, row[at], at + 1, set) : parseRuns(p, row[at], at + 1, set);
        }

        private int parseArray(int p, int n, int at, Numbers set) {
            int least = 0;
            for (int i = at; i < at + n; i++) {
                if (i >= length) {
                    return -1 - length;
                }
                if (row[i] < least) {
                    return -1 - i;
                }
                set.include(PLACES * p + row[i]);
                least = row[i] + 1;
            }
            return at + n;
        }

        private int parseRuns(int p, int r, int at, Numbers set) {
            int least = 0;
            for (int i = at; i < at + 2 * r; i++) {
                if (i >= length) {
                    return -1 - length;
                }
                if (row[i] < least) {
                    return -1 - i;
                }
                boolean last = (i - at) % 2 == 1;
                if (last) {
                    set.includeAll(PLACES * p + row[i - 1], PLACES * p + row[i]);
                }
                least = last ? row[i] + 2 : row[i];
            }
            return at + 2 * r;
        }

        private int parseBitmap(int p, int at, Numbers set) {
            for (int k = 0; k < BITMAP_COST - 1; k++) {
                if (at + k >= length) {
                    return -1 - length;
                }
                for (int b = 0; b < 8; b++) {
                    if ((row[at + k] >> b & 1) != 0) {
                        set.include(PLACES * p + 8 * k + b);
                    }
                }
            }
            return at + BITMAP_COST - 1;
        }
    }
}
