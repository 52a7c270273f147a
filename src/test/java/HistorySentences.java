import java.math.BigInteger;

/** The sentences of promises 25 and 26: undo and the fingerprint. */
final class HistorySentences {
    private static final int[] NO_NUMBERS = new int[6];
    private static final int[] NO_MEETINGS = new int[9];
    private static final int[] NO_CONVERSIONS = new int[6];
    private static final int[] NO_COUNTS = new int[15];

    private static Sentences doc;

    private HistorySentences() {
    }

    static void test(Sentences document) {
        doc = document;
        promise25();
        promise26();
    }

    private static void promise25() {
        doc.in("Promise 25: undo");
        doc.test("Undoes the latest act.", run -> {
            run.due("add 0 0 0 = 1");
            String[] acts = {"add 0 5 9 = 5", "remove 0 0 9 = 1", "flip 0 0 9 = 9", "scatter 0 1 300 = 294",
                "shift 0 -1 = 1",
                "combine 1 0 0 1 = 1", "read 0 = 0"};
            long print = run.print();
            for (String act : acts) {
                run.due(act, "undo = 1", "fingerprint = " + print);
            }
            run.due("undo = 0", "size 0 = 0");
            // Undone to the last state kept, and new acts from there on.
            for (int i = 0; i < 7; i++) {
                run.due("add 0 " + i + " " + i + " = 1");
            }
            run.due("undo = 4", "undo = 3", "add 1 5 5 = 1", "undo = 3", "undo = 2", "undo = 1", "undo = 0",
                "size 0 = 2",
                "undo = NONE", "size 0 = 2", "add 0 9 9 = 1", "undo = 0", "size 0 = 2");
        });
        doc.test("Returns how many states the history still has", run -> {
            for (int acts = 1; acts < 9; acts++) {
                run.anew();
                for (int i = 0; i < acts; i++) {
                    run.due("add 0 " + i + " " + i + " = 1");
                }
                for (int left = Math.min(acts, 5) - 1; left >= 0; left--) {
                    run.due("undo = " + left);
                }
                run.due("undo = NONE", "size 0 = " + Math.max(acts - 5, 0));
            }
        });
        doc.test("NONE if it has none", "undo = NONE", "undo = NONE", "add 0 7 7 = 1", "undo = 0", "undo = NONE",
            "undo = NONE", "add 0 7 6 = BAD", "undo = NONE", "put 7 = 1", "undo = NONE", "add 0 7 7 = 1", "undo = 0");
    }

    /** The fingerprint of numbers in their order, reckoned without overflow and cut to a long's bits at the end. */
    private static long print(int[]... parts) {
        BigInteger print = BigInteger.valueOf(163);
        for (int[] part : parts) {
            for (int number : part) {
                print = print.multiply(BigInteger.valueOf(31)).add(BigInteger.valueOf(number));
            }
        }
        return print.longValue();
    }

    private static int[] of(int... numbers) {
        return numbers;
    }

    private static Run due(Run run, int[]... parts) {
        return run.due("fingerprint = " + print(parts));
    }

    private static int[] oneOf(int many, int place) {
        int[] counts = new int[many];
        counts[place] = 1;
        return counts;
    }

    private static void promise26() {
        doc.in("Promise 26: fingerprint");
        doc.test("Returns a fingerprint.", run -> {
            long empty = print(NO_NUMBERS, NO_COUNTS);
            run.due("fingerprint = " + empty, "fingerprint = " + empty).put(3)
                .due("fingerprint = " + empty, "shift 0 1 = 0",
                "fingerprint = " + empty, "undo = 0", "fingerprint = " + empty, "clear = 1", "add 0 0 0 = 1",
                "remove 0 0 0 = 1",
                "fingerprint = " + empty);
        });
        doc.test("It starts as 163; then, for each of the following numbers, in this order, it becomes 31 times itself "
            + "plus the number, in long arithmetic with overflow:", HistorySentences::overflow);
        doc.test("for each set size() and, for each of its pieces with numbers, p, piece() 0 to 3", run -> {
            due(run.due("add 0 3 3 = 1"), of(1, 0, 0, 1, 1, 3, 0, 0, 0, 0, 0), NO_COUNTS, of(3));
            due(run.anew().due("add 5 4093 4095 = 3"), of(0, 0, 0, 0, 0, 3, 15, 1, 3, 1, 4), NO_COUNTS, of(4093, 4094,
                4095));
            due(run.anew().due("add 2 255 258 = 4"), of(0, 0, 4, 0, 0, 1, 1, 3, 1, 1, 3, 1, 4, 0, 0, 0), NO_COUNTS,
                of(255, 256, 257, 258));
        });
        doc.test("met() of all pairs of kinds (0 0, 0 1, and so on)", run -> {
            for (int a = 0; a < 3; a++) {
                for (int b = 0; b < 3; b++) {
                    run.anew().make(0, a).make(1, b).due("combine 0 0 1 2 = " + Run.inBoth(a, b));
                    due(run.each("read % = 0", 0, 1, 2), NO_NUMBERS, oneOf(9, 3 * a + b), NO_CONVERSIONS);
                }
            }
        });
        doc.test("converted() of all pairs of different kinds, in this order", run -> {
            int[][] pairs = {{0, 1}, {0, 2}, {1, 0}, {1, 2}, {2, 0}, {2, 1}};
            for (int i = 0; i < 6; i++) {
                run.anew().make(0, pairs[i][0]).make(0, pairs[i][1]).due("read 0 = 0");
                due(run, NO_NUMBERS, NO_MEETINGS, oneOf(6, i));
            }
        });
        doc.test("for each set all its numbers, in ascending order.", run -> {
            due(run.due("add 0 4095 4095 = 1", "add 0 0 0 = 1", "add 1 63 64 = 2"),
                of(2, 0, 0, 1, 1, 3, 15, 0, 1, 1, 3, 2, 0, 0, 2, 1, 4, 0, 0, 0, 0), NO_COUNTS, of(0, 4095, 63, 64));
            for (int x = 0; x < 4096; x += 63) {
                due(run.anew().due("add 4 " + x + " " + x + " = 1"), of(0, 0, 0, 0, 1, x / 256, 0, 1, 1, 3, 0),
                    NO_COUNTS, of(x));
            }
        });
        doc.test("Returns the fingerprint.", run -> {
            run.due("add 1 255 258 = 4", "add 4 4095 4095 = 1", "combine 3 1 4 2 = 4", "combine 0 1 2 4 = 4",
                "add 1 254 254 = 1",
                "add 1 253 253 = 1");
            due(run, of(0, 6, 0, 1, 3, 1, 4, 1, 1, 3, 1, 4, 4, 0, 0, 1, 1, 3, 1, 1, 3, 1, 4, 0, 4, 0, 0, 1, 1, 3, 1, 1,
                3, 1, 4, 0),
                of(1, 0, 0, 0, 1, 0, 0, 0, 0), of(1, 0, 0, 0, 0, 0),
                of(253, 254, 255, 256, 257, 258), of(255, 256, 257, 258), of(255, 256, 257, 258));
        });
    }

    /** Six full sets: the most numbers that there can be. */
    private static void overflow(Run run) {
        due(run, NO_NUMBERS, NO_COUNTS);
        int[] pieces = new int[6 * 81];
        int[] numbers = new int[6 * 4096];
        for (int s = 0; s < 6; s++) {
            run.due("add " + s + " 0 4095 = 4096");
            pieces[81 * s] = 4096;
            for (int p = 0; p < 16; p++) {
                System.arraycopy(of(p, 1, 256, 1, 4), 0, pieces, 81 * s + 1 + 5 * p, 5);
            }
            for (int x = 0; x < 4096; x++) {
                numbers[4096 * s + x] = x;
            }
        }
        due(run, pieces, NO_COUNTS, numbers);
    }
}
