/** Promises 1 to 7: a new object, and the acts that change sets by numbers. */
public final class ChangingTest {
    private static final int BAD = PieceSets.BAD;
    private static final int NONE = PieceSets.NONE;
    private static final int LEAST = Integer.MIN_VALUE;
    private static final int MOST = Integer.MAX_VALUE;
    private static final Checks CHECKS = new Checks();

    private static void due(String what, long got, long want) {
        CHECKS.due(what, got, want);
    }

    private static void promise1NewObject() {
        PieceSets x = new PieceSets();
        for (int s = 0; s < 6; s++) {
            due("1: size of set " + s, x.size(s), 0);
            due("1: bytes of set " + s, x.bytes(s), 0);
            for (int p = 0; p < 16; p++) {
                due("1: kind of piece " + p, x.piece(s, p, 0), NONE);
            }
        }
        due("1: no set 6", x.size(6), BAD);
        due("1: no set -1", x.size(-1), BAD);
        due("1: no history", x.undo(), NONE);
        due("1: no bytes in the buffer", x.clear(), 0);
        PieceSets y = new PieceSets();
        x.add(0, 0, 9);
        x.put(1);
        due("1: objects are apart", y.size(0), 0);
        due("1: their buffers too", y.clear(), 0);
        due("1: their histories too", y.undo(), NONE);
    }

    private static void promise2Add() {
        PieceSets x = new PieceSets();
        due("2: one number", x.add(0, 7, 7), 1);
        due("2: a range with it", x.add(0, 5, 9), 4);
        due("2: all there", x.add(0, 5, 9), 0);
        due("2: over borders", x.add(1, 255, 512), 258);
        due("2: piece 0 of it", x.piece(1, 0, 1), 1);
        due("2: piece 1 of it", x.piece(1, 1, 1), 256);
        due("2: piece 2 of it", x.piece(1, 2, 1), 1);
        due("2: other sets stay", x.size(2), 0);
        due("2: the smallest", x.add(2, 0, 0), 1);
        due("2: the largest", x.add(2, 4095, 4095), 1);
        due("2: everything", x.add(2, 0, 4095), 4094);
        due("2: a full set", x.add(2, 0, 4095), 0);
        due("2: the last set", x.add(5, 64, 127), 64);
        due("2: its first number", x.near(5, LEAST, true), 64);
        due("2: its last number", x.near(5, MOST, false), 127);
        int[][] bad = {{-1, 0, 0}, {6, 0, 0}, {0, -1, 0}, {0, 0, 4096}, {0, 9, 8}, {0, 4096, 4096}, {0, -5, -5},
            {LEAST, 0, 0}, {MOST, 0, 0}, {0, LEAST, MOST}, {0, 0, MOST}, {0, LEAST, 0}, {6, 9, 8}};
        for (int[] b : bad) {
            long before = x.fingerprint();
            due("2: add of a bad argument", x.add(b[0], b[1], b[2]), BAD);
            due("3: remove of a bad argument", x.remove(b[0], b[1], b[2]), BAD);
            due("4: flip of a bad argument", x.flip(b[0], b[1], b[2]), BAD);
            due("2: it changes nothing", x.fingerprint(), before);
        }
        PieceSets fresh = new PieceSets();
        for (int[] b : bad) {
            fresh.add(b[0], b[1], b[2]);
            fresh.remove(b[0], b[1], b[2]);
            fresh.flip(b[0], b[1], b[2]);
        }
        due("2: an error is no act", fresh.undo(), NONE);
        fresh.add(0, 1, 1);
        fresh.add(0, 1, 1);
        due("2: an act that leaves all as it was is one", fresh.undo(), 1);
    }

    private static void promise3Remove() {
        PieceSets x = new PieceSets();
        due("3: an empty set", x.remove(0, 0, 4095), 0);
        due("3: is an act", x.undo(), 0);
        x.add(0, 100, 700);
        due("3: the middle", x.remove(0, 250, 260), 11);
        due("3: it leaves two runs", x.runs(0), 2);
        due("3: half of it there", x.remove(0, 690, 800), 11);
        due("3: what is left", x.size(0), 579);
        due("3: it has gone", x.contains(0, 255), 0);
        due("3: its neighbors have not", x.contains(0, 249) + x.contains(0, 261), 2);
        due("3: a number that is gone", x.remove(0, 255, 255), 0);
        due("3: all", x.remove(0, 0, 4095), 579);
        due("3: none left", x.size(0), 0);
        x.add(5, 0, 4095);
        due("3: the smallest", x.remove(5, 0, 0), 1);
        due("3: the largest", x.remove(5, 4095, 4095), 1);
        due("3: all the rest", x.remove(5, 0, 4095), 4094);
    }

    private static void promise4Flip() {
        PieceSets x = new PieceSets();
        due("4: an empty set", x.flip(3, 10, 19), 10);
        due("4: half of it", x.flip(3, 15, 24), 5);
        due("4: what is there", x.size(3), 10);
        due("4: first run", x.run(3, 0), 4096 * 10 + 14);
        due("4: second run", x.run(3, 1), 4096 * 20 + 24);
        due("4: all numbers", x.flip(3, 0, 4095), 4086);
        due("4: twice", x.flip(3, 0, 4095), 10);
        due("4: the largest", x.flip(3, 4095, 4095), 1);
        due("4: and back", x.flip(3, 4095, 4095), 0);
        due("4: over a border", x.flip(3, 255, 256), 2);
        due("4: is an act", x.undo(), 4);
        due("4: that is undone", x.size(3), 10);
    }

    private static void promise5Scatter() {
        PieceSets x = new PieceSets();
        // With seed 0 x becomes 12345, whose upper 16 bits are 0.
        due("5: one number", x.scatter(0, 0, 1), 1);
        due("5: it is", x.select(0, 0), 0);
        int seed = -2;
        int first = (1103515245 * seed + 12345 >>> 16) % 4096;
        due("5: a negative seed", x.scatter(1, seed, 1), 1);
        due("5: its number", x.contains(1, first), 1);
        // 1103515245 * 2 + 12345 overflows: its upper bits must be taken without a sign.
        due("5: overflow", x.scatter(2, 2, 1), 1);
        due("5: its number", x.contains(2, (int) ((1103515245L * 2 + 12345) % 4294967296L / 65536 % 4096)), 1);
        due("5: the most", x.scatter(3, 7, 300), 289);
        due("5: the same again", x.scatter(3, 7, 300), 289);
        due("5: other ones more", x.scatter(3, 8, 300), 556);
        long before = x.fingerprint();
        int[] counts = {0, 301, -1, LEAST, MOST};
        for (int many : counts) {
            due("5: many " + many, x.scatter(0, 1, many), BAD);
        }
        due("5: no set 6", x.scatter(6, 1, 1), BAD);
        due("5: no set -1", x.scatter(-1, 1, 301), BAD);
        due("5: errors change nothing", x.fingerprint(), before);
        due("5: and are no acts", x.undo(), 4);
        due("5: what is undone", x.size(3), 289);
        due("5: the least seed", new PieceSets().scatter(0, LEAST, 300) > 250 ? 1 : 0, 1);
    }

    private static void promise6Combine() {
        PieceSets x = new PieceSets();
        x.add(0, 0, 299);
        x.add(1, 200, 499);
        due("6: in both", x.combine(0, 0, 1, 2), 100);
        due("6: its run", x.run(2, 0), 4096 * 200 + 299);
        due("6: in one", x.combine(1, 0, 1, 3), 500);
        due("6: its run", x.run(3, 0), 499);
        due("6: in just one", x.combine(2, 0, 1, 4), 400);
        due("6: its second run", x.run(4, 1), 4096 * 300 + 499);
        due("6: in the first alone", x.combine(3, 0, 1, 5), 200);
        due("6: its run", x.run(5, 0), 199);
        due("6: the first becomes it", x.combine(3, 0, 1, 0), 200);
        due("6: the second becomes it", x.combine(3, 3, 1, 1), 200);
        due("6: a set without itself", x.combine(3, 3, 3, 2), 0);
        due("6: it is empty", x.size(2), 0);
        due("6: a set with itself", x.combine(0, 3, 3, 3), 500);
        due("6: two empty sets", new PieceSets().combine(1, 0, 1, 2), 0);
        long before = x.fingerprint();
        int[][] bad = {{-1, 0, 0, 0}, {4, 0, 0, 0}, {0, 6, 0, 0}, {0, -1, 0, 0}, {0, 0, 6, 0}, {0, 0, -1, 0},
            {0, 0, 0, 6}, {0, 0, 0, -1}, {MOST, MOST, MOST, MOST}, {LEAST, LEAST, LEAST, LEAST}};
        PieceSets fresh = new PieceSets();
        for (int[] b : bad) {
            due("6: a bad argument", x.combine(b[0], b[1], b[2], b[3]), BAD);
            fresh.combine(b[0], b[1], b[2], b[3]);
        }
        due("6: errors change nothing", x.fingerprint(), before);
        due("6: and are no acts", fresh.undo(), NONE);
    }

    private static void promise7Shift() {
        PieceSets x = new PieceSets();
        x.add(0, 0, 9);
        x.add(0, 4090, 4095);
        due("7: up", x.shift(0, 3), 3);
        due("7: its first run", x.run(0, 0), 4096 * 3 + 12);
        due("7: its last run", x.run(0, 1), 4096 * 4093 + 4095);
        due("7: down", x.shift(0, -5), 2);
        due("7: its first run", x.run(0, 0), 7);
        due("7: its last run", x.run(0, 1), 4096 * 4088 + 4090);
        due("7: by 0", x.shift(0, 0), 0);
        due("7: is an act", x.undo(), 4);
        due("7: over a piece", x.shift(0, 256), 3);
        due("7: its first run", x.run(0, 0), 4096 * 256 + 263);
        due("7: by a word", x.shift(0, 64), 0);
        due("7: its first run", x.run(0, 0), 4096 * 320 + 327);
        due("7: far down", x.shift(0, -4095), 8);
        PieceSets full = new PieceSets();
        full.add(0, 0, 4095);
        due("7: the farthest down", full.shift(0, -4095), 4095);
        due("7: it leaves 0", full.select(0, 0), 0);
        due("7: the farthest up", full.shift(0, 4095), 0);
        due("7: it leaves 4095", full.select(0, 0), 4095);
        due("7: out of it", full.shift(0, 1), 1);
        due("7: an empty set", full.shift(0, 1), 0);
        long before = full.fingerprint();
        int[][] bad = {{0, 4096}, {0, -4096}, {0, MOST}, {0, LEAST}, {6, 0}, {-1, 0}, {6, 4096}};
        for (int[] b : bad) {
            due("7: a bad argument", full.shift(b[0], b[1]), BAD);
        }
        due("7: errors change nothing", full.fingerprint(), before);
        due("7: and are no acts", full.undo(), 4);
        due("7: what is undone", full.undo(), 3);
        due("7: what it had", full.select(0, 0), 4095);
    }

    public static void main(String[] args) {
        promise1NewObject();
        promise2Add();
        promise3Remove();
        promise4Flip();
        promise5Scatter();
        promise6Combine();
        promise7Shift();
        CHECKS.end();
    }
}
