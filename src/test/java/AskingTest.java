/** Promises 8 to 14: what a set answers of its numbers. */
public final class AskingTest {
    private static final int BAD = PieceSets.BAD;
    private static final int NONE = PieceSets.NONE;
    private static final int LEAST = Integer.MIN_VALUE;
    private static final int MOST = Integer.MAX_VALUE;
    private static final int[] NO_SETS = {-1, 6, LEAST, MOST};
    private static final Checks CHECKS = new Checks();

    private static void due(String what, long got, long want) {
        CHECKS.due(what, got, want);
    }

    /** Set 0: 5, 10 to 20, 255 to 256, 4095; set 1 full; set 2 empty. */
    private static PieceSets filled() {
        PieceSets x = new PieceSets();
        x.add(0, 5, 5);
        x.add(0, 10, 20);
        x.add(0, 255, 256);
        x.add(0, 4095, 4095);
        x.add(1, 0, 4095);
        return x;
    }

    private static void promise8Size() {
        PieceSets x = filled();
        due("8: some", x.size(0), 15);
        due("8: full", x.size(1), 4096);
        due("8: empty", x.size(2), 0);
        for (int s : NO_SETS) {
            due("8: no set", x.size(s), BAD);
        }
    }

    private static void promise9Contains() {
        PieceSets x = filled();
        int[] in = {5, 10, 15, 20, 255, 256, 4095};
        int[] out = {0, 4, 6, 9, 21, 254, 257, 4094, -1, 4096, LEAST, MOST, 5 - 4096, 5 + 4096, 5 + 65536};
        for (int n : in) {
            due("9: " + n + " is in", x.contains(0, n), 1);
            due("9: " + n + " is in the full one", x.contains(1, n), 1);
            due("9: " + n + " is not in the empty one", x.contains(2, n), 0);
        }
        for (int n : out) {
            due("9: " + n + " is not in", x.contains(0, n), 0);
        }
        due("9: the full one ends", x.contains(1, 4096) + x.contains(1, -1), 0);
        for (int s : NO_SETS) {
            due("9: no set", x.contains(s, 5), BAD);
            due("9: no set, any int", x.contains(s, -5), BAD);
        }
    }

    private static void promise10Rank() {
        PieceSets x = filled();
        int[][] ranks = {{LEAST, 0}, {-1, 0}, {0, 0}, {4, 0}, {5, 1}, {9, 1}, {10, 2}, {20, 12}, {21, 12}, {254, 12},
            {255, 13}, {256, 14}, {4094, 14}, {4095, 15}, {4096, 15}, {MOST, 15}};
        for (int[] r : ranks) {
            due("10: rank of " + r[0], x.rank(0, r[0]), r[1]);
            due("10: of the empty one", x.rank(2, r[0]), 0);
        }
        due("10: the full one", x.rank(1, 4000), 4001);
        due("10: its first", x.rank(1, 0), 1);
        for (int s : NO_SETS) {
            due("10: no set", x.rank(s, 5), BAD);
        }
    }

    private static void promise11Select() {
        PieceSets x = filled();
        int[] numbers = {5, 10, 11, 12, 13, 14, 15, 16, 17, 18, 19, 20, 255, 256, 4095};
        for (int i = 0; i < numbers.length; i++) {
            due("11: index " + i, x.select(0, i), numbers[i]);
        }
        due("11: not so many", x.select(0, 15), NONE);
        due("11: far from so many", x.select(0, MOST), NONE);
        due("11: negative", x.select(0, -1), BAD);
        due("11: most negative", x.select(0, LEAST), BAD);
        due("11: the full one", x.select(1, 4095), 4095);
        due("11: behind it", x.select(1, 4096), NONE);
        due("11: the empty one", x.select(2, 0), NONE);
        for (int s : NO_SETS) {
            due("11: no set", x.select(s, 0), BAD);
        }
    }

    private static void promise12Near() {
        PieceSets x = filled();
        int[][] ups = {{LEAST, 5}, {-1, 5}, {0, 5}, {5, 5}, {6, 10}, {20, 20}, {21, 255}, {256, 256}, {257, 4095},
            {4095, 4095}, {4096, NONE}, {MOST, NONE}};
        for (int[] u : ups) {
            due("12: up from " + u[0], x.near(0, u[0], true), u[1]);
        }
        int[][] downs = {{LEAST, NONE}, {-1, NONE}, {0, NONE}, {4, NONE}, {5, 5}, {9, 5}, {20, 20}, {254, 20},
            {255, 255}, {4094, 256}, {4095, 4095}, {4096, 4095}, {MOST, 4095}};
        for (int[] d : downs) {
            due("12: down from " + d[0], x.near(0, d[0], false), d[1]);
        }
        due("12: the full one", x.near(1, 0, true) + x.near(1, 0, false), 0);
        for (int n = 0; n < 4096; n += 15) {
            due("12: the full one up", x.near(1, n, true), n);
            due("12: the full one down", x.near(1, n, false), n);
        }
        due("12: from 1", x.near(1, 1, true), 1);
        due("12: the empty one up", x.near(2, LEAST, true), NONE);
        due("12: the empty one down", x.near(2, MOST, false), NONE);
        for (int s : NO_SETS) {
            due("12: no set", x.near(s, 5, true), BAD);
            due("12: no set", x.near(s, 5, false), BAD);
        }
    }

    private static void promise13Runs() {
        PieceSets x = filled();
        due("13: some", x.runs(0), 4);
        due("13: full", x.runs(1), 1);
        due("13: empty", x.runs(2), 0);
        x.add(3, 255, 255);
        x.add(3, 257, 257);
        due("13: a gap at the border", x.runs(3), 2);
        x.add(3, 256, 256);
        due("13: none over the border", x.runs(3), 1);
        due("13: but one in each piece", x.piece(3, 0, 2) + x.piece(3, 1, 2), 2);
        x.add(4, 63, 64);
        due("13: over words", x.runs(4), 1);
        for (int s : NO_SETS) {
            due("13: no set", x.runs(s), BAD);
        }
        PieceSets comb = new PieceSets();
        for (int n = 0; n < 150; n++) {
            comb.add(0, 27 * n, 27 * n);
        }
        due("13: many", comb.runs(0), 150);
        due("14: the last of many", comb.run(0, 149), 4097 * 27 * 149);
        due("14: no more of many", comb.run(0, 150), NONE);
    }

    private static void promise14Run() {
        PieceSets x = filled();
        due("14: first", x.run(0, 0), 4096 * 5 + 5);
        due("14: second", x.run(0, 1), 4096 * 10 + 20);
        due("14: over the border", x.run(0, 2), 4096 * 255 + 256);
        due("14: at the end", x.run(0, 3), 4096 * 4095 + 4095);
        due("14: not so many", x.run(0, 4), NONE);
        due("14: far from so many", x.run(0, MOST), NONE);
        due("14: negative", x.run(0, -1), BAD);
        due("14: most negative", x.run(0, LEAST), BAD);
        due("14: the full one", x.run(1, 0), 4095);
        due("14: it has but one", x.run(1, 1), NONE);
        due("14: the empty one", x.run(2, 0), NONE);
        for (int s : NO_SETS) {
            due("14: no set", x.run(s, 0), BAD);
        }
    }

    private static void askingChangesNothing() {
        PieceSets x = filled();
        long before = x.fingerprint();
        for (int i = -1; i < 20; i++) {
            x.contains(0, i);
            x.rank(0, i);
            x.select(0, i);
            x.near(0, i, true);
            x.run(0, i);
            x.piece(0, i, 2);
            x.byteAt(0, i);
            x.compare(0, 1, i);
            x.alike(0, 1, true);
            x.met(i, 0);
            x.converted(i, 0);
        }
        due("asking changes nothing", x.fingerprint(), before);
        due("asking is no act", x.undo(), 4);
    }

    public static void main(String[] args) {
        promise8Size();
        promise9Contains();
        promise10Rank();
        promise11Select();
        promise12Near();
        promise13Runs();
        promise14Run();
        askingChangesNothing();
        CHECKS.end();
    }
}
