/** The sentences of promises 8 to 14: what a set answers of its numbers. */
final class AskingSentences {
    private static final Object[] NO_SETS = {-1, 6, "LEAST", "MOST"};
    private static final Object[] SETS = {0, 1, 2, 3, 4, 5};
    /** Ints far from any number, of which some would be one if bits were cut off. */
    private static final Object[] FAR = {4096, -4096, 4101, -4091, 65541, 1048581, "LEAST", "MOST"};

    private static Sentences doc;

    private AskingSentences() {
    }

    static void test(Sentences document) {
        doc = document;
        promise8();
        promise9();
        promise10();
        promise11();
        promise12();
        promise13();
        promise14();
    }

    /** Set 0: 5, 10 to 20, 255 to 256, 4095; set 1 full; the others empty. */
    private static Run filled(Run run) {
        run.each("add 0 % % = 1", 5, 255, 256, 4095);
        return run.due("add 0 10 20 = 11", "add 1 0 4095 = 4096");
    }

    /** Six sets with other numbers each: set s has 10 * s and 10 * s + 1. */
    private static Run sixSets(Run run) {
        for (int s = 0; s < 6; s++) {
            run.due("add " + s + " " + 10 * s + " " + (10 * s + 1) + " = 2");
        }
        return run;
    }

    private static void noSets(String call, String arguments) {
        doc.test("BAD if there is no such set", run ->
            filled(run).each(call + " %" + arguments + " = BAD", NO_SETS));
    }

    private static void negativeIndex(String call) {
        doc.test("or i is negative", run -> {
            filled(run).each(call + " 0 % = BAD", -1, -15, "LEAST").each(call + " 1 % = BAD", -1, "LEAST");
            run.each(call + " 2 % = BAD", -1, "LEAST").due(call + " 6 -1 = BAD");
        });
    }

    private static void promise8() {
        doc.in("Promise 8: size");
        doc.test("Returns the number of its numbers.", run ->
            filled(run).due("size 0 = 15", "size 1 = 4096", "size 2 = 0", "remove 1 0 0 = 1", "size 1 = 4095"));
        doc.test("`s`: a set", run -> sixSets(run).due("add 3 99 99 = 1").each("size % = 2", 0, 1, 2, 4, 5)
            .due("size 3 = 3"));
        doc.test("Returns the number;", "size 0 = 0", "add 0 7 7 = 1", "size 0 = 1", "add 0 4000 4095 = 96",
            "size 0 = 97");
        noSets("size", "");
    }

    private static void promise9() {
        doc.in("Promise 9: contains");
        doc.test("Tells whether a number is in a set.", run -> {
            filled(run).each("contains 0 % = 1", 5, 10, 15, 20, 255, 256, 4095);
            run.each("contains 0 % = 0", 0, 4, 6, 9, 21, 254, 257, 4094);
            run.each("contains 1 % = 1", 0, 63, 64, 2048, 4095).each("contains 2 % = 0", 0, 63, 64, 2048, 4095);
        });
        doc.test("`s`: a set", run -> {
            sixSets(run).due("contains 0 0 = 1", "contains 5 50 = 1", "contains 5 51 = 1")
                .each("contains % 20 = 0", 0, 1, 3, 4, 5);
        });
        doc.test("`x`: any int", run -> {
            filled(run).each("contains 0 % = 0", -1, -5).each("contains 0 % = 0", FAR);
            run.due("contains 1 -1 = 0").each("contains 1 % = 0", FAR).each("contains 2 % = 0", FAR);
        });
        doc.test("Returns 1 if it is, otherwise 0", "contains 0 7 = 0", "add 0 7 7 = 1", "contains 0 7 = 1",
            "remove 0 7 7 = 1", "contains 0 7 = 0", "add 0 4095 4095 = 1", "contains 0 4095 = 1", "contains 0 0 = 0");
        noSets("contains", " 5");
    }

    private static void promise10() {
        doc.in("Promise 10: rank");
        doc.test("Counts the numbers of a set that are at most a number.", run -> {
            int[][] ranks = {{0, 0}, {4, 0}, {5, 1}, {6, 1}, {9, 1}, {10, 2}, {20, 12}, {21, 12}, {254, 12}, {255, 13},
                {256, 14}, {257, 14}, {4094, 14}, {4095, 15}};
            filled(run);
            for (int[] rank : ranks) {
                run.due("rank 0 " + rank[0] + " = " + rank[1], "rank 2 " + rank[0] + " = 0");
            }
            for (int x = 0; x < 4096; x += 63) {
                run.due("rank 1 " + x + " = " + (x + 1));
            }
        });
        doc.test("`s`: a set", run -> sixSets(run).each("rank % 4095 = 2", SETS).each("rank % 20 = 0", 3, 4, 5)
            .due("rank 2 20 = 1"));
        doc.test("`x`: any int", run -> {
            filled(run).each("rank 0 % = 0", -1, -5, -4096, -4091, "LEAST").each("rank 0 % = 15", 4096, 4101, 65541,
                "MOST");
            run.each("rank 1 % = 0", -1, "LEAST").each("rank 1 % = 4096", 4096, 9999, "MOST");
            run.each("rank 2 % = 0", -1, 4096, "LEAST", "MOST");
        });
        doc.test("Returns how many there are", "rank 0 4095 = 0", "add 0 0 0 = 1", "rank 0 0 = 1",
            "add 0 4095 4095 = 1",
            "rank 0 4094 = 1", "rank 0 4095 = 2", "add 0 0 4095 = 4094", "rank 0 4095 = 4096", "rank 0 0 = 1");
        noSets("rank", " 5");
    }

    private static void promise11() {
        doc.in("Promise 11: select");
        doc.test("Returns a number of a set by its index in ascending order.", run -> {
            int[] numbers = {5, 10, 11, 12, 13, 14, 15, 16, 17, 18, 19, 20, 255, 256, 4095};
            filled(run);
            for (int i = 0; i < numbers.length; i++) {
                run.due("select 0 " + i + " = " + numbers[i]);
            }
            run.anew().each("add 0 % % = 1", 4095, 64, 63, 0).due("select 0 0 = 0", "select 0 1 = 63",
                "select 0 2 = 64");
        });
        doc.test("`s`: a set", run -> {
            sixSets(run);
            for (int s = 0; s < 6; s++) {
                run.due("select " + s + " 0 = " + 10 * s, "select " + s + " 1 = " + (10 * s + 1),
                    "select " + s + " 2 = NONE");
            }
        });
        doc.test("`i`: the index, from 0", run -> {
            filled(run);
            for (int i = 0; i < 4096; i += 63) {
                run.due("select 1 " + i + " = " + i);
            }
            run.due("select 1 4096 = NONE", "select 1 -1 = BAD");
        });
        doc.test("Returns the number;", "add 0 0 0 = 1", "select 0 0 = 0", "flip 0 0 4095 = 4095", "select 0 0 = 1",
            "select 0 4094 = 4095");
        noSets("select", " 0");
        negativeIndex("select");
        doc.test("NONE if there are not so many", run -> {
            filled(run).each("select 0 % = NONE", 15, 16, 4095, 4096, 65536, "MOST")
                .each("select 1 % = NONE", 4096, "MOST");
            run.each("select 2 % = NONE", 0, 1, "MOST").due("add 2 9 9 = 1", "select 2 0 = 9", "select 2 1 = NONE");
        });
    }

    private static void promise12() {
        doc.in("Promise 12: near");
        doc.test("Returns the neighbor of a number in a set.", "add 0 10 10 = 1", "add 0 20 20 = 1",
            "near 0 15 true = 20",
            "near 0 15 false = 10", "near 0 10 true = 10", "near 0 10 false = 10", "near 0 11 true = 20",
            "near 0 19 false = 10", "near 0 9 true = 10", "near 0 21 false = 20");
        doc.test("`s`: a set", run -> {
            sixSets(run);
            for (int s = 0; s < 6; s++) {
                run.due("near " + s + " 0 true = " + 10 * s, "near " + s + " 4095 false = " + (10 * s + 1));
            }
        });
        doc.test("`x`: any int", run -> {
            filled(run).each("near 0 % true = 5", -1, -4096, "LEAST", -2147483647)
                .each("near 0 % false = 4095", 4096, 65541, "MOST");
            run.each("near 1 % true = 0", -1, "LEAST").each("near 1 % false = 4095", 4096, "MOST");
            run.each("near 1 % true = NONE", 4096, "MOST").each("near 1 % false = NONE", -1, "LEAST");
            for (int x = 0; x < 4096; x += 63) {
                run.due("near 1 " + x + " true = " + x, "near 1 " + x + " false = " + x);
            }
        });
        doc.test("`up`: true for the least number that is at least x, false for the greatest one that is at most x",
            run -> {
                int[][] neighbors = {{5, 5, 5}, {6, 10, 5}, {9, 10, 5}, {10, 10, 10}, {20, 20, 20}, {21, 255, 20}, {254,
                    255, 20},
                    {255, 255, 255}, {256, 256, 256}, {257, 4095, 256}, {4094, 4095, 256}, {4095, 4095, 4095}};
                filled(run);
                for (int[] n : neighbors) {
                    run.due("near 0 " + n[0] + " true = " + n[1], "near 0 " + n[0] + " false = " + n[2]);
                }
                run.due("near 1 0 true = 0", "near 1 0 false = 0", "near 1 1 true = 1", "near 1 1 false = 1");
            });
        doc.test("Returns the number;", "add 0 0 0 = 1", "near 0 0 true = 0", "near 0 0 false = 0",
            "near 0 MOST false = 0",
            "flip 0 0 4095 = 4095", "near 0 0 true = 1", "near 0 1 false = 1");
        doc.test("BAD if there is no such set", run ->
            filled(run).each("near % 5 true = BAD", NO_SETS).each("near % 5 false = BAD", NO_SETS));
        doc.test("NONE if there is none", run -> {
            filled(run).each("near 0 % true = NONE", 4096, 65536, "MOST").each("near 0 % false = NONE", 4, 0, -1,
                "LEAST");
            run.each("near 2 % true = NONE", "LEAST", -1, 0, 4095, "MOST");
            run.each("near 2 % false = NONE", "LEAST", -1, 0, 4095, "MOST");
            run.due("remove 0 4095 4095 = 1", "near 0 257 true = NONE", "near 0 256 true = 256");
        });
    }

    private static void promise13() {
        doc.in("Promise 13: runs");
        doc.test("Counts the runs of a set: longest stretches of successive numbers", run -> {
            filled(run).due("runs 0 = 4", "add 0 6 6 = 1", "runs 0 = 4", "add 0 7 9 = 3", "runs 0 = 3",
                "remove 0 12 12 = 1",
                "runs 0 = 4", "add 0 63 63 = 1", "runs 0 = 5", "add 0 64 64 = 1", "runs 0 = 5", "add 0 66 66 = 1",
                "runs 0 = 6");
            run.anew();
            for (int n = 0; n < 150; n++) {
                run.due("add 0 " + 27 * n + " " + 27 * n + " = 1");
            }
            run.due("runs 0 = 150", "flip 0 0 4095 = 3946", "runs 0 = 150");
        });
        doc.test("(also over the borders of pieces)", "add 0 255 255 = 1", "add 0 257 257 = 1", "runs 0 = 2",
            "add 0 256 256 = 1", "runs 0 = 1", "piece 0 0 2 = 1", "piece 0 1 2 = 1", "add 1 0 4095 = 4096",
            "runs 1 = 1",
            "remove 1 256 256 = 1", "runs 1 = 2", "remove 1 511 512 = 2", "runs 1 = 3");
        doc.test("`s`: a set", run -> sixSets(run).due("add 3 99 99 = 1").each("runs % = 1", 0, 1, 2, 4, 5)
            .due("runs 3 = 2"));
        doc.test("Returns how many there are", "runs 0 = 0", "add 0 0 0 = 1", "runs 0 = 1", "add 0 4095 4095 = 1",
            "runs 0 = 2",
            "flip 0 0 4095 = 4094", "runs 0 = 1", "add 0 0 0 = 1", "runs 0 = 1", "remove 0 0 4095 = 4095",
            "runs 0 = 0");
        noSets("runs", "");
    }

    private static void promise14() {
        doc.in("Promise 14: run");
        doc.test("Returns a run of a set.", run -> {
            filled(run).runs(0, 5, 5, 10, 20, 255, 256, 4095, 4095).runs(1, 0, 4095).runs(2);
            run.due("add 2 63 64 = 2", "add 2 127 127 = 1", "add 2 128 191 = 64").runs(2, 63, 64, 127, 191);
        });
        doc.test("`s`: a set", run -> {
            sixSets(run);
            for (int s = 0; s < 6; s++) {
                run.runs(s, 10 * s, 10 * s + 1);
            }
        });
        doc.test("`i`: its index, from 0", run -> {
            for (int n = 0; n < 150; n++) {
                run.due("add 0 " + 27 * n + " " + 27 * n + " = 1");
            }
            for (int n = 0; n < 150; n += 7) {
                run.due("run 0 " + n + " = " + 4097 * 27 * n);
            }
            run.due("run 0 149 = " + 4097 * 27 * 149, "run 0 150 = NONE", "run 0 -1 = BAD");
        });
        doc.test("Returns 4096 times its first number plus its last number", "add 0 0 0 = 1", "run 0 0 = 0",
            "add 0 4095 4095 = 1", "run 0 1 = 16777215", "add 0 1 4094 = 4094", "run 0 0 = 4095", "remove 0 0 0 = 1",
            "run 0 0 = 8191");
        noSets("run", " 0");
        negativeIndex("run");
        doc.test("NONE if there are not so many", run -> {
            filled(run).each("run 0 % = NONE", 4, 5, 15, 4096, "MOST").each("run 1 % = NONE", 1, 4095, "MOST");
            run.each("run 2 % = NONE", 0, 1, "MOST").due("add 2 9 9 = 1", "run 2 0 = 36873", "run 2 1 = NONE");
        });
    }
}
