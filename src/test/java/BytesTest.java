/** Promises 15 to 20: kinds of pieces, bytes written and read, the buffer. */
public final class BytesTest {
    private static final int BAD = PieceSets.BAD;
    private static final int FULL = PieceSets.FULL;
    private static final int NONE = PieceSets.NONE;
    private static final int LEAST = Integer.MIN_VALUE;
    private static final int MOST = Integer.MAX_VALUE;
    private static final int[] NO_SETS = {-1, 6, LEAST, MOST};
    private static final Checks CHECKS = new Checks();

    private static void due(String what, long got, long want) {
        CHECKS.due(what, got, want);
    }

    /** A set of piece p with some runs of a length, each a gap of 2 from the next. */
    private static PieceSets comb(int p, int runs, int length) {
        PieceSets x = new PieceSets();
        for (int i = 0; i < runs; i++) {
            int first = 256 * p + i * (length + 2);
            x.add(0, first, first + length - 1);
        }
        return x;
    }

    private static void pieceDue(String what, PieceSets x, int p, int kind, int n, int r, int bytes) {
        due(what + ", kind", x.piece(0, p, 0), kind);
        due(what + ", numbers", x.piece(0, p, 1), n);
        due(what + ", runs", x.piece(0, p, 2), r);
        due(what + ", bytes", x.piece(0, p, 3), bytes);
        due(what + ", bytes of the set", x.bytes(0), bytes);
    }

    private static void promise15Piece() {
        pieceDue("15: empty", new PieceSets(), 0, NONE, 0, 0, 0);
        pieceDue("15: one number", comb(0, 1, 1), 0, 0, 1, 1, 3);
        pieceDue("15: array as cheap as runs", comb(15, 1, 2), 15, 0, 2, 1, 4);
        pieceDue("15: runs cheaper by one", comb(15, 1, 3), 15, 1, 3, 1, 4);
        pieceDue("15: several of two", comb(3, 10, 2), 3, 0, 20, 10, 22);
        pieceDue("15: several of three", comb(3, 10, 3), 3, 1, 30, 10, 22);
        pieceDue("15: array as cheap as bitmap", comb(7, 31, 1), 7, 0, 31, 31, 33);
        pieceDue("15: bitmap cheaper than array", comb(7, 32, 1), 7, 2, 32, 32, 33);
        pieceDue("15: runs cheaper than bitmap", comb(7, 15, 3), 7, 1, 45, 15, 32);
        pieceDue("15: bitmap cheaper than runs", comb(7, 16, 3), 7, 2, 48, 16, 33);
        PieceSets full = new PieceSets();
        full.add(0, 256, 511);
        pieceDue("15: a full piece", full, 1, 1, 256, 1, 4);
        PieceSets x = new PieceSets();
        x.add(0, 255, 256);
        due("15: runs end at the border", x.piece(0, 1, 2), 1);
        for (int what = 0; what < 4; what++) {
            for (int s : NO_SETS) {
                due("15: no set", x.piece(s, 0, what), BAD);
            }
            due("15: no piece 16", x.piece(0, 16, what), BAD);
            due("15: no piece -1", x.piece(0, -1, what), BAD);
            due("15: no such piece", x.piece(0, MOST, what) + x.piece(0, LEAST, what), 2 * BAD);
        }
        due("15: no what 4", x.piece(0, 0, 4), BAD);
        due("15: no what -1", x.piece(0, 0, -1), BAD);
        due("15: BAD of an empty piece", x.piece(0, 5, 4), BAD);
        due("15: no such what", x.piece(0, 0, MOST) + x.piece(0, 0, LEAST), 2 * BAD);
    }

    private static void promise16Bytes() {
        PieceSets x = new PieceSets();
        due("16: empty", x.bytes(0), 0);
        x.add(0, 0, 4095);
        due("16: full", x.bytes(0), 64);
        x.add(1, 255, 600);
        due("16: array, runs, runs", x.bytes(1), 3 + 4 + 4);
        x.scatter(2, 7, 300);
        x.scatter(2, 8, 300);
        x.scatter(2, 9, 300);
        int sum = 0;
        for (int p = 0; p < 16; p++) {
            sum += x.piece(2, p, 3);
        }
        due("16: the sum of its pieces", x.bytes(2), sum);
        for (int s : NO_SETS) {
            due("16: no set", x.bytes(s), BAD);
        }
    }

    private static void bytesDue(String what, PieceSets x, int... bytes) {
        due(what + ", how many", x.bytes(0), bytes.length);
        for (int i = 0; i < bytes.length; i++) {
            due(what + ", byte " + i, x.byteAt(0, i), bytes[i]);
        }
        due(what + ", behind them", x.byteAt(0, bytes.length), NONE);
    }

    private static void promise17ByteAt() {
        PieceSets x = new PieceSets();
        bytesDue("17: empty", x);
        x.add(0, 255, 600);
        x.add(0, 4090, 4090);
        bytesDue("17: array, runs, runs, array", x, 0, 1, 255, 5, 1, 0, 255, 9, 1, 0, 88, 60, 1, 250);
        PieceSets runs = new PieceSets();
        runs.add(0, 513, 516);
        runs.add(0, 520, 530);
        runs.add(0, 532, 532);
        runs.add(0, 767, 768);
        bytesDue("17: runs of one and at the border", runs, 9, 4, 1, 4, 8, 18, 20, 20, 255, 255, 12, 1, 0);
        PieceSets arrays = new PieceSets();
        arrays.add(0, 0, 0);
        arrays.add(0, 300, 300);
        bytesDue("17: arrays", arrays, 0, 1, 0, 4, 1, 44);
        PieceSets map = comb(15, 32, 1);
        map.flip(0, 3840 + 248, 3840 + 255);
        int[] written = new int[33];
        written[0] = 62;
        for (int place = 0; place < 256; place++) {
            written[1 + place / 8] |= map.contains(0, 3840 + place) << place % 8;
        }
        due("17: its lowest bit is the first place", written[1] & 1, 1);
        bytesDue("17: bitmap", map, written);
        PieceSets full = new PieceSets();
        full.add(0, 0, 4095);
        for (int p = 0; p < 16; p++) {
            due("17: full, head", full.byteAt(0, 4 * p), 4 * p + 1);
            due("17: full, r", full.byteAt(0, 4 * p + 1), 1);
            due("17: full, first", full.byteAt(0, 4 * p + 2), 0);
            due("17: full, last", full.byteAt(0, 4 * p + 3), 255);
        }
        due("17: far behind", full.byteAt(0, MOST), NONE);
        due("17: negative", full.byteAt(0, -1), BAD);
        due("17: most negative", full.byteAt(0, LEAST), BAD);
        for (int s : NO_SETS) {
            due("17: no set", full.byteAt(s, 0), BAD);
        }
    }

    private static void promise18Put() {
        PieceSets x = new PieceSets();
        due("18: the least", x.put(0), 1);
        due("18: the most", x.put(255), 2);
        int[] bad = {-1, 256, LEAST, MOST};
        for (int b : bad) {
            due("18: " + b, x.put(b), BAD);
        }
        for (int i = 3; i <= 200; i++) {
            due("18: one more", x.put(7), i);
        }
        due("18: full", x.put(7), FULL);
        due("18: BAD before FULL", x.put(256), BAD);
        due("18: still full", x.put(0), FULL);
        due("18: it keeps 200", x.clear(), 200);
        due("18: room again", x.put(1), 1);
        due("18: is no act", x.undo(), NONE);
    }

    private static void promise19Clear() {
        PieceSets x = new PieceSets();
        due("19: empty", x.clear(), 0);
        x.put(64);
        x.put(64);
        due("19: two", x.clear(), 2);
        due("19: gone", x.clear(), 0);
        due("19: nothing left to read", x.read(0), 0);
        x.put(0);
        due("19: from the start", x.put(1), 2);
        x.clear();
        due("19: is no act", x.undo(), 0);
    }

    private static PieceSets with(int... bytes) {
        PieceSets x = new PieceSets();
        for (int b : bytes) {
            x.put(b);
        }
        return x;
    }

    private static void errorDue(int place, int... bytes) {
        PieceSets x = with(bytes);
        x.add(0, 3, 9);
        long before = x.fingerprint();
        String what = "20: error of " + java.util.Arrays.toString(bytes);
        due(what, x.read(0), -100 - place);
        due(what + " changes nothing", x.fingerprint(), before);
        due(what + " is no act", x.undo(), 0);
        due(what + ", the buffer stays", x.clear(), bytes.length);
    }

    private static int[] bitmap(int head, int many, int... bytes) {
        int[] all = new int[1 + many];
        all[0] = head;
        System.arraycopy(bytes, 0, all, 1, bytes.length);
        return all;
    }

    private static void promise20Read() {
        PieceSets x = with(0, 3, 1, 4, 9, 5, 2, 0, 9, 20, 30);
        for (int s : NO_SETS) {
            due("20: no set", x.read(s), BAD);
        }
        due("20: the buffer stays with BAD", x.put(60), 12);
        due("20: BAD before the error place", x.read(6), BAD);
        due("20: too early an end", x.read(0), -112);
        x.put(1);
        x.put(0);
        due("20: array, runs, array", x.read(0), 25);
        due("20: its numbers", x.rank(0, 4) + x.contains(0, 9) + x.contains(0, 3840), 4);
        due("20: its runs", x.run(0, 3), 4096 * 256 + 265);
        due("20: the buffer is empty then", x.clear(), 0);
        due("20: an empty buffer is the empty set", x.read(0), 0);
        due("20: it is", x.size(0), 0);
        due("20: is an act", x.undo(), 1);
        due("20: that is undone", x.size(0), 25);
        due("20: the buffer belongs to no state", x.clear(), 0);
    }

    private static void errorPlaces() {
        errorDue(0, 64);
        errorDue(0, 255);
        errorDue(0, 3);
        errorDue(0, 63);
        errorDue(1, 0);
        errorDue(1, 1);
        errorDue(1, 0, 0);
        errorDue(1, 1, 0);
        errorDue(2, 0, 1);
        errorDue(3, 0, 2, 5);
        errorDue(3, 0, 2, 5, 5);
        errorDue(3, 0, 2, 5, 4);
        errorDue(3, 0, 2, 5, 4, 64);
        errorDue(3, 1, 1, 5);
        errorDue(3, 1, 1, 5, 4);
        errorDue(4, 1, 2, 0, 5, 6, 9);
        errorDue(4, 1, 2, 0, 5, 5, 9);
        errorDue(6, 1, 2, 0, 5, 7, 9, 3);
        errorDue(4, 1, 2, 0, 255, 0, 9);
        errorDue(3, 4, 1, 7, 0, 1, 7);
        errorDue(3, 4, 1, 7, 4, 1, 8);
        errorDue(3, 4, 1, 7, 64);
        errorDue(4, 4, 1, 7, 8);
        // The kind is wrong: found at the piece's end, told at its first byte.
        errorDue(0, 0, 3, 1, 2, 3);
        errorDue(0, 0, 3, 1, 2, 3, 64);
        errorDue(0, 1, 1, 7, 7);
        errorDue(0, 1, 1, 7, 8);
        errorDue(3, 4, 1, 7, 8, 3, 1, 2, 3);
        errorDue(4, 0, 3, 1, 2);
        errorDue(4, 0, 3, 1, 2, 2);
        // An n or r that is too large is no error by itself.
        errorDue(4, 0, 200, 1, 2);
        errorDue(4, 0, 200, 1, 2, 2);
        errorDue(4, 1, 255, 1, 2);
        errorDue(4, 1, 255, 1, 2, 3);
        errorDue(33, bitmap(2, 32)[0], 1, 2, 3, 4, 5, 6, 7, 8, 9, 10, 11, 12, 13, 14, 15, 16, 17, 18, 19, 20, 21, 22,
            23, 24, 25, 26, 27, 28, 29, 30, 31, 32, 64);
        errorDue(0, bitmap(2, 32));
        errorDue(0, bitmap(2, 32, 255));
        errorDue(0, bitmap(2, 32, 1, 1, 1));
        errorDue(1, bitmap(2, 0));
        errorDue(32, bitmap(2, 31, 170, 170, 170, 170, 170, 170, 170, 170, 170, 170));
    }

    private static void fullBuffer() {
        // 32 numbers with gaps would be a bitmap, and 16 runs too.
        PieceSets many = with(0, 32);
        for (int i = 0; i < 32; i++) {
            many.put(3 * i);
        }
        due("20: an array of 32", many.read(0), -100);
        PieceSets runs = with(1, 16);
        for (int i = 0; i < 16; i++) {
            runs.put(8 * i);
            runs.put(8 * i + 5);
        }
        due("20: runs, 16 of them", runs.read(0), -100);
        PieceSets full = new PieceSets();
        putBitmaps(full, 6);
        due("20: 198 bytes and one more", full.put(24), 199);
        due("20: too early an end", full.read(0), -299);
        due("20: 200 bytes", full.put(1), 200);
        due("20: too early an end of a full buffer", full.read(0), -300);
        due("20: full", full.put(0), FULL);
        full.clear();
        putBitmaps(full, 6);
        due("20: six bitmaps", full.read(5), 6 * 128);
        due("20: every second number", full.contains(5, 0) - full.contains(5, 1) + full.contains(5, 1534), 2);
    }

    private static void allPieces() {
        PieceSets x = new PieceSets();
        for (int p = 0; p < 16; p++) {
            x.put(4 * p);
            x.put(1);
            x.put(p);
        }
        x.put(60);
        due("20: a byte too many behind all pieces", x.read(0), -148);
        x.clear();
        for (int p = 0; p < 16; p++) {
            x.put(4 * p + 1);
            x.put(1);
            x.put(0);
            x.put(255);
        }
        due("20: a full set", x.read(0), 4096);
    }

    /** Bytes that stood in the buffer before it was emptied count no longer. */
    private static void bytesOfBefore() {
        int[][] pieces = {{0, 1, 5}, {1, 1, 5, 9}, bitmap(2, 32, 85, 85, 85, 85, 85, 85, 85, 85, 85, 85)};
        for (int[] bytes : pieces) {
            for (int end = 1; end < bytes.length; end++) {
                PieceSets x = with(bytes);
                x.clear();
                for (int i = 0; i < end; i++) {
                    x.put(bytes[i]);
                }
                due("20: the end of " + end + " bytes", x.read(0), -100 - end);
            }
        }
    }

    /** Five bitmaps and an array, 197 bytes in all. */
    private static PieceSets nearlyFull() {
        PieceSets x = new PieceSets();
        putBitmaps(x, 5);
        x.put(20);
        x.put(30);
        for (int k = 0; k < 30; k++) {
            x.put(2 * k);
        }
        return x;
    }

    private static void putBitmaps(PieceSets x, int many) {
        for (int p = 0; p < many; p++) {
            x.put(4 * p + 2);
            for (int k = 0; k < 32; k++) {
                x.put(85);
            }
        }
    }

    private static void endOfFullBuffer() {
        PieceSets x = nearlyFull();
        x.put(24);
        x.put(1);
        due("20: three bytes more", x.put(7), 200);
        due("20: a full buffer", x.read(0), 5 * 128 + 31);
        for (int kind = 0; kind < 3; kind++) {
            PieceSets one = nearlyFull();
            one.put(24 + kind);
            one.put(2);
            due("20: the last byte of all", one.put(9), 200);
            due("20: a full buffer that ends too early", one.read(0), -300);
        }
        PieceSets cut = new PieceSets();
        putBitmaps(cut, 5);
        cut.put(20);
        cut.put(29);
        for (int k = 0; k < 29; k++) {
            cut.put(2 * k);
        }
        cut.put(24);
        cut.put(1);
        due("20: all but one", cut.put(7), 199);
        due("20: a piece begins with the last byte", cut.put(28), 200);
        due("20: and has no more", cut.read(0), -300);
    }

    private static void conversionsOfRead() {
        PieceSets x = with(0, 1, 5);
        x.add(0, 0, 9);
        x.add(0, 256, 300);
        x.read(0);
        due("20: a piece converted", x.converted(1, 0), 1);
        due("20: a piece emptied is none", x.piece(0, 1, 0), NONE);
        x.put(5);
        x.put(1);
        x.put(0);
        x.put(9);
        x.read(0);
        due("20: a piece filled is none", x.converted(0, 1), 0);
    }

    private static void writtenIsRead() {
        PieceSets x = new PieceSets();
        x.scatter(0, 3, 60);
        x.add(0, 300, 420);
        for (int i = 0; i < x.bytes(0); i++) {
            x.put(x.byteAt(0, i));
        }
        due("20: what is written is read", x.read(1), x.size(0));
        due("20: the same", x.compare(0, 1, 1), 0);
    }

    public static void main(String[] args) {
        promise15Piece();
        promise16Bytes();
        promise17ByteAt();
        promise18Put();
        promise19Clear();
        promise20Read();
        errorPlaces();
        fullBuffer();
        allPieces();
        bytesOfBefore();
        endOfFullBuffer();
        conversionsOfRead();
        writtenIsRead();
        CHECKS.end();
    }
}
