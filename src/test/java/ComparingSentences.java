/** The sentences of promises 21 to 24: sets compared, kinds that met, conversions. */
final class ComparingSentences {
    private static final Object[] NO_SETS = {-1, 6, "LEAST", "MOST"};
    private static final Object[] NO_KINDS = {-1, 3, "LEAST", "MOST"};

    private static Sentences doc;

    private ComparingSentences() {
    }

    static void test(Sentences document) {
        doc = document;
        promise21();
        promise21Answers();
        promise22();
        promise23();
        promise24();
    }

    /** What compare() answers for what = 0 to 4. */
    private static void compared(Run run, int s, int t, int... answers) {
        for (int what = 0; what < 5; what++) {
            run.due("compare " + s + " " + t + " " + what + " = " + answers[what]);
        }
    }

    /** Set 0: 100 to 299, set 1: 200 to 599, set 2: 210 to 220, set 4 full, sets 3 and 5 empty. */
    private static Run filled(Run run) {
        return run.due("add 0 100 299 = 200", "add 1 200 599 = 400", "add 2 210 220 = 11", "add 4 0 4095 = 4096");
    }

    private static void promise21() {
        doc.in("Promise 21: compare");
        doc.test("Compares two sets.", run -> {
            filled(run);
            compared(run, 0, 1, 100, 400, 0, 13, 100);
            compared(run, 1, 0, 100, 400, 0, 13, 100);
            compared(run, 2, 0, 11, 189, 1, 14, 100);
            compared(run, 0, 2, 11, 189, 0, 14, 100);
            compared(run, 0, 0, 200, 0, 1, 16, PieceSets.NONE);
            compared(run, 3, 5, 0, 0, 1, 16, PieceSets.NONE);
            compared(run, 4, 3, 0, 4096, 0, 0, 0);
        });
        doc.test("`s`: a set", run -> {
            for (int s = 0; s < 6; s++) {
                run.due("add " + s + " " + 10 * s + " 99 = " + (100 - 10 * s));
            }
            run.due("compare 0 0 0 = 100", "compare 1 0 0 = 90", "compare 2 0 0 = 80", "compare 3 0 0 = 70",
                "compare 4 0 0 = 60", "compare 5 0 0 = 50");
            for (int what = 0; what < 5; what++) {
                run.each("compare % 0 " + what + " = BAD", NO_SETS);
            }
        });
        doc.test("`t`: a set", run -> {
            for (int t = 0; t < 6; t++) {
                run.due("add " + t + " " + 10 * t + " 99 = " + (100 - 10 * t));
            }
            run.due("compare 0 1 0 = 90", "compare 0 2 0 = 80", "compare 0 3 0 = 70", "compare 0 4 0 = 60",
                "compare 0 5 0 = 50");
            for (int what = 0; what < 5; what++) {
                run.each("compare 0 % " + what + " = BAD", NO_SETS);
            }
        });
        doc.test("Returns that number", "add 0 0 4095 = 4096", "add 1 0 4095 = 4096", "compare 0 1 0 = 4096",
            "compare 0 1 1 = 0", "compare 0 1 2 = 1", "compare 0 1 3 = 16", "compare 0 1 4 = NONE");
        doc.test("BAD if an argument is not in its range", run -> {
            filled(run).each("compare 0 1 % = BAD", -1, 5, "LEAST", "MOST").each("compare 3 5 % = BAD", -1, 5, "LEAST",
                "MOST");
            run.each("compare % % % = BAD", -1, 6, "LEAST", "MOST").due("compare 6 0 5 = BAD", "compare 0 6 5 = BAD");
        });
    }

    private static void promise21Answers() {
        doc.test("`what`: 0 numbers in both", "compare 0 1 0 = 0", "add 0 10 19 = 10", "compare 0 1 0 = 0",
            "add 1 20 29 = 10", "compare 0 1 0 = 0", "add 1 19 19 = 1", "compare 0 1 0 = 1", "compare 0 0 0 = 10",
            "add 2 0 4095 = 4096", "compare 2 0 0 = 10", "compare 2 2 0 = 4096");
        doc.test("1 numbers in just one", "compare 0 1 1 = 0", "add 0 10 19 = 10", "compare 0 1 1 = 10",
            "compare 1 0 1 = 10",
            "compare 0 0 1 = 0", "add 1 15 24 = 10", "compare 0 1 1 = 10", "add 2 0 4095 = 4096",
            "compare 2 3 1 = 4096",
            "compare 2 0 1 = 4086");
        doc.test("2 1 if all numbers of the first one are in the second one, otherwise 0", "compare 0 1 2 = 1",
            "add 0 10 19 = 10", "compare 0 1 2 = 0", "compare 1 0 2 = 1", "compare 0 0 2 = 1", "add 1 10 18 = 9",
            "compare 0 1 2 = 0", "compare 1 0 2 = 1", "add 1 19 19 = 1", "compare 0 1 2 = 1", "compare 1 0 2 = 1",
            "add 1 4095 4095 = 1", "compare 0 1 2 = 1", "compare 1 0 2 = 0", "add 2 0 4095 = 4096", "compare 1 2 2 = 1",
            "compare 2 1 2 = 0");
        doc.test("3 pieces in which both have the same numbers (also none)", "compare 0 1 3 = 16", "add 0 0 0 = 1",
            "compare 0 1 3 = 15", "add 1 0 0 = 1", "compare 0 1 3 = 16", "add 1 255 256 = 2", "compare 0 1 3 = 14",
            "compare 1 0 3 = 14", "add 1 4095 4095 = 1", "compare 0 1 3 = 13", "add 2 0 4095 = 4096",
            "compare 2 0 3 = 0",
            "compare 2 2 3 = 16", "add 1 0 255 = 254", "compare 1 2 3 = 1");
        doc.test("4 the smallest number that is in just one of them (NONE if there is none)", "compare 0 1 4 = NONE",
            "add 0 0 4095 = 4096", "compare 0 1 4 = 0", "compare 1 0 4 = 0", "add 1 0 255 = 256", "compare 0 1 4 = 256",
            "add 1 256 4094 = 3839", "compare 0 1 4 = 4095", "compare 1 0 4 = 4095", "add 1 4095 4095 = 1",
            "compare 0 1 4 = NONE", "compare 0 0 4 = NONE", "remove 1 63 64 = 2", "compare 1 0 4 = 63");
    }

    /** How alike two sets are, asked both ways round. */
    private static void alike(Run run, int s, int t, int above, int below) {
        run.due("alike " + s + " " + t + " false = " + above, "alike " + s + " " + t + " true = " + below);
        run.due("alike " + t + " " + s + " false = " + above, "alike " + t + " " + s + " true = " + below);
    }

    private static void promise22() {
        doc.in("Promise 22: alike");
        doc.test("Returns how alike two sets are: the numbers in both, divided by those in at least one, "
            + "in lowest terms",
            run -> {
                run.due("add 0 0 99 = 100", "add 1 50 99 = 50");
                alike(run, 0, 1, 1, 2);
                run.due("add 1 100 119 = 20");
                alike(run, 0, 1, 5, 12);
                run.due("add 2 4000 4095 = 96", "add 3 0 4095 = 4096", "add 4 0 4094 = 4095", "add 5 7 7 = 1");
                alike(run, 2, 3, 3, 128);
                alike(run, 3, 4, 4095, 4096);
                alike(run, 3, 5, 1, 4096);
                alike(run, 0, 0, 1, 1);
                alike(run, 3, 3, 1, 1);
                alike(run, 0, 5, 1, 100);
                // No fraction of numbers up to 4096 takes Euclid more steps than this one.
                run.due("remove 3 2584 4095 = 1512", "remove 4 1597 4094 = 2498");
                alike(run, 3, 4, 1597, 2584);
            });
        doc.test("(1 / 1 if both are empty", run -> {
            alike(run, 0, 1, 1, 1);
            alike(run, 5, 5, 1, 1);
            run.due("add 0 0 9 = 10", "remove 0 0 9 = 10");
            alike(run, 0, 1, 1, 1);
        });
        doc.test("0 / 1 if there are none in both otherwise)", run -> {
            run.due("add 0 0 99 = 100");
            alike(run, 0, 1, 0, 1);
            run.due("add 1 100 4095 = 3996");
            alike(run, 0, 1, 0, 1);
            run.due("add 2 0 4095 = 4096");
            alike(run, 2, 3, 0, 1);
        });
        doc.test("`s`: a set", run -> {
            run.due("add 0 0 59 = 60", "add 5 0 29 = 30", "alike 0 0 true = 1", "alike 5 0 true = 2",
                "alike 5 0 false = 1");
            run.each("alike % 0 true = BAD", NO_SETS).each("alike % 0 false = BAD", NO_SETS);
        });
        doc.test("`t`: a set", run -> {
            run.due("add 0 0 59 = 60", "add 5 0 29 = 30", "alike 0 5 true = 2", "alike 0 5 false = 1",
                "alike 0 4 true = 1",
                "alike 0 4 false = 0");
            run.each("alike 0 % true = BAD", NO_SETS).each("alike 0 % false = BAD", NO_SETS);
        });
        doc.test("`below`: true for the denominator, false for the numerator", "add 0 0 2 = 3", "add 1 1 4 = 4",
            "alike 0 1 true = 5", "alike 0 1 false = 2", "alike 0 2 true = 1", "alike 0 2 false = 0");
        doc.test("Returns that number", "add 0 0 4095 = 4096", "add 1 0 2047 = 2048", "alike 0 1 false = 1",
            "alike 0 1 true = 2", "alike 0 0 true = 1", "alike 1 1 false = 1");
        doc.test("BAD if there is no such set", run -> {
            run.each("alike % % true = BAD", NO_SETS).each("alike % % false = BAD", NO_SETS);
            run.each("alike 5 % false = BAD", NO_SETS).each("alike % 5 true = BAD", NO_SETS);
        });
    }

    private static void promise23() {
        doc.in("Promise 23: met");
        doc.test("Returns how often kinds have met in combine().", run -> {
            run.due("add 0 0 9 = 10", "add 1 5 5 = 1", "combine 0 0 1 2 = 1", "compare 0 1 0 = 1",
                "alike 0 1 true = 10");
            run.meetings(0, 0, 0, 1, 0, 0, 0, 0, 0).due("combine 2 0 2 2 = 9").meetings(0, 0, 0, 2, 0, 0, 0, 0, 0);
            run.due("undo = 3").meetings(0, 0, 0, 1, 0, 0, 0, 0, 0).due("undo = 2").meetings(0, 0, 0, 0, 0, 0, 0, 0, 0);
            run.due("combine 4 0 1 2 = BAD", "combine 0 0 1 6 = BAD").meetings(0, 0, 0, 0, 0, 0, 0, 0, 0);
        });
        doc.test("`a`: a kind, in the first set", run -> {
            for (int a = 0; a < 3; a++) {
                run.anew().make(0, a).due("add 1 0 9 = 10", "combine 1 0 1 0 = " + (a == 0 ? 10 : a == 1 ? 100 : 133));
                run.meetings(0, a == 0 ? 1 : 0, 0, 0, a == 1 ? 1 : 0, 0, 0, a == 2 ? 1 : 0, 0);
            }
            run.each("met % 0 = BAD", NO_KINDS);
        });
        doc.test("`b`: a kind, in the second set", run -> {
            for (int b = 0; b < 3; b++) {
                run.anew().make(0, b).due("add 1 0 0 = 1", "combine 0 1 0 1 = " + (b == 0 ? 0 : 1));
                run.meetings(b == 0 ? 1 : 0, b == 1 ? 1 : 0, b == 2 ? 1 : 0, 0, 0, 0, 0, 0, 0);
            }
            run.each("met 0 % = BAD", NO_KINDS);
        });
        doc.test("Returns how often;", run -> {
            for (int a = 0; a < 3; a++) {
                for (int b = 0; b < 3; b++) {
                    int both = Run.inBoth(a, b);
                    int one = Run.inBoth(a, a) + Run.inBoth(b, b) - 2 * both;
                    run.anew().make(0, a).make(1, b).due("met " + a + " " + b + " = 0", "combine 0 0 1 2 = " + both,
                        "met " + a + " " + b + " = 1", "combine 1 0 1 2 = " + (both + one), "combine 2 0 1 2 = " + one,
                        "combine 3 0 1 2 = " + (Run.inBoth(a, a) - both));
                    int[] counts = new int[9];
                    counts[3 * a + b] = 4;
                    run.meetings(counts);
                }
            }
        });
        doc.test("BAD if there is no such kind", run ->
            run.each("met % 2 = BAD", NO_KINDS).each("met 2 % = BAD", NO_KINDS).each("met % % = BAD", NO_KINDS));
    }

    private static void promise24() {
        doc.in("Promise 24: converted");
        doc.test("Returns the number of conversions.", run -> {
            run.due("add 0 0 0 = 1", "add 0 0 9 = 9").conversions(1, 0, 0, 0, 0, 0)
                .due("add 1 0 0 = 1", "add 1 0 9 = 9");
            run.conversions(2, 0, 0, 0, 0, 0).due("undo = 3").conversions(1, 0, 0, 0, 0, 0).due("undo = 2", "undo = 1");
            run.conversions(0, 0, 0, 0, 0, 0).due("add 0 1 9 = 9").conversions(1, 0, 0, 0, 0, 0);
        });
        doc.test("`from`: a kind", run -> {
            for (int from = 0; from < 3; from++) {
                run.anew().make(0, from).make(0, 1).conversions(from == 0 ? 1 : 0, 0, 0, 0, 0, from == 2 ? 1 : 0);
            }
            run.each("converted % 0 = BAD", NO_KINDS);
        });
        doc.test("`to`: another kind", run -> {
            for (int to = 0; to < 3; to++) {
                run.anew().make(0, 0).make(0, to).conversions(to == 1 ? 1 : 0, to == 2 ? 1 : 0, 0, 0, 0, 0);
            }
            run.each("converted 0 % = BAD", NO_KINDS);
        });
        doc.test("Returns how many pieces have been converted from the one to the other one", run -> {
            int[] order = {0, 1, 2, 0, 2, 1, 0};
            run.make(0, 0);
            for (int i = 1; i < order.length; i++) {
                String asked = "converted " + order[i - 1] + " " + order[i];
                run.due(asked + " = 0").make(0, order[i]).due(asked + " = 1");
            }
            run.conversions(1, 1, 1, 1, 1, 1);
            for (int p = 0; p < 16; p++) {
                run.due("add 5 " + 256 * p + " " + 256 * p + " = 1");
            }
            run.due("add 5 0 4095 = 4080").conversions(17, 1, 1, 1, 1, 1);
        });
        doc.test("BAD if there is no such kind", run ->
            run.each("converted % 2 = BAD", NO_KINDS).each("converted 2 % = BAD", NO_KINDS)
                .each("converted % % = BAD", NO_KINDS));
        doc.test("or both are the same", run -> {
            run.each("converted % % = BAD", 0, 1, 2).due("add 0 0 9 = 10", "add 0 0 19 = 10")
                .each("converted % % = BAD", 0, 1, 2);
        });
    }
}
