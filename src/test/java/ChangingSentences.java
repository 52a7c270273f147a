/** The sentences of promises 1 to 7: a new object, and the acts that change sets by numbers. */
final class ChangingSentences {
    private static final Object[] NO_SETS = {-1, 6, "LEAST", "MOST"};
    private static final Object[] NO_NUMBERS = {-1, 4096, "LEAST", "MOST"};

    private static Sentences doc;

    private ChangingSentences() {
    }

    static void test(Sentences document) {
        doc = document;
        promise1();
        promise2();
        promise3();
        promise4();
        promise5();
        promise6();
        promise6Arguments();
        promise7();
    }

    /** The sentences that add, remove and flip have in common; many is what the call answers for n new numbers. */
    private static void rangeIsAct(String call, String answerOfNine) {
        doc.test("This is an act.", run -> {
            run.isAct(call + " 0 1 9 = " + answerOfNine);
            run.isAct(call + " 0 1 9 = " + answerOfNine);
            run.due("undo = NONE").each(call + " % 1 9 = BAD", NO_SETS).due(call + " 0 9 1 = BAD", "undo = NONE");
        });
    }

    private static void badRanges(String call) {
        doc.test("or a number is not in its range", run -> {
            run.due("add 0 0 9 = 10", "add 0 4090 4095 = 6");
            long print = run.print();
            run.each(call + " 0 % 5 = BAD", NO_NUMBERS).each(call + " 0 5 % = BAD", NO_NUMBERS);
            run.each(call + " 0 % % = BAD", NO_NUMBERS);
            run.due(call + " 0 9 8 = BAD", call + " 0 4095 0 = BAD", call + " 0 LEAST MOST = BAD",
                call + " 0 MOST LEAST = BAD", call + " 0 -1 4096 = BAD", call + " 6 9 8 = BAD");
            run.due("fingerprint = " + print, "undo = 1");
        });
    }

    private static void promise1() {
        doc.in("Promise 1: A new object");
        doc.test("Creates six empty sets.", run -> {
            for (int s = 0; s < 6; s++) {
                run.due("size " + s + " = 0", "bytes " + s + " = 0", "runs " + s + " = 0");
                for (int p = 0; p < 16; p++) {
                    run.piece(s, p, PieceSets.NONE, 0, 0, 0);
                }
            }
            run.due("size 6 = BAD", "size -1 = BAD");
            run.anew().meetings(0, 0, 0, 0, 0, 0, 0, 0, 0).conversions(0, 0, 0, 0, 0, 0);
            run.due("undo = NONE", "clear = 0");
            // A new object is new whatever the one before it was asked to do.
            run.anew().due("add 0 0 9 = 10").put(64).anew().due("size 0 = 0", "undo = NONE", "clear = 0");
        });
    }

    private static void promise2() {
        doc.in("Promise 2: add");
        doc.test("Adds numbers, each of which is 0 to 4095.", run -> {
            run.due("add 0 0 0 = 1", "add 0 4095 4095 = 1").runs(0, 0, 0, 4095, 4095)
                .due("add 0 0 4095 = 4094", "size 0 = 4096");
            run.due("add 1 250 600 = 351").runs(1, 250, 600).due("size 2 = 0", "add 0 -1 0 = BAD",
                "add 0 4095 4096 = BAD");
            run.anew().each("add 0 % % = 1", 63, 64, 127, 128, 255, 256, 3839, 3840);
            run.runs(0, 63, 64, 127, 128, 255, 256, 3839, 3840);
        });
        rangeIsAct("add", "9");
        doc.test("`s`: a set", run -> {
            run.each("add % 7 9 = 3", 0, 1, 2, 3, 4, 5).each("size % = 3", 0, 1, 2, 3, 4, 5);
        });
        doc.test("`from`: the first number", "add 0 0 9 = 10", "add 1 9 9 = 1", "near 1 0 true = 9",
            "add 2 4095 4095 = 1",
            "add 2 256 511 = 256", "near 2 0 true = 256", "add 3 -1 9 = BAD", "add 3 4096 4096 = BAD");
        doc.test("`to`: the last number, at least from", "add 0 9 9 = 1", "add 0 9 8 = BAD", "add 0 1 0 = BAD",
            "add 0 0 0 = 1", "add 0 0 4095 = 4094", "add 0 0 4096 = BAD", "add 1 64 127 = 64",
            "near 1 4095 false = 127");
        doc.test("Returns how many of them were not in it", "add 0 7 7 = 1", "add 0 5 9 = 4", "add 0 5 9 = 0",
            "add 0 6 12 = 3", "add 0 0 4095 = 4088", "add 0 0 4095 = 0");
        doc.test("BAD if there is no such set", run -> run.each("add % 0 0 = BAD", NO_SETS));
        badRanges("add");
    }

    private static void promise3() {
        doc.in("Promise 3: remove");
        doc.test("Removes numbers.", run -> {
            run.due("add 0 100 700 = 601", "add 1 100 700 = 601", "remove 0 250 260 = 11");
            run.runs(0, 100, 249, 261, 700).runs(1, 100, 700).due("remove 0 256 256 = 0", "size 0 = 590");
            run.anew().due("add 0 0 4095 = 4096").each("remove 0 % % = 1", 0, 63, 128, 255, 3840, 4095);
            run.runs(0, 1, 62, 64, 127, 129, 254, 256, 3839, 3841, 4094);
        });
        rangeIsAct("remove", "0");
        doc.test("`s`: a set", run -> {
            run.each("add % 7 9 = 3", 0, 1, 2, 3, 4, 5).each("remove % 8 8 = 1", 0, 1, 2, 3, 4, 5);
            run.each("size % = 2", 0, 1, 2, 3, 4, 5);
        });
        doc.test("`from`: the first number, 0 to 4095", "add 0 0 4095 = 4096", "remove 0 4095 4095 = 1",
            "remove 0 0 0 = 1",
            "remove 0 -1 0 = BAD", "remove 0 4096 4096 = BAD", "size 0 = 4094");
        doc.test("`to`: the last number, from to 4095", "add 0 0 4095 = 4096", "remove 0 9 9 = 1", "remove 0 9 8 = BAD",
            "remove 0 0 4096 = BAD", "remove 0 0 4095 = 4095", "size 0 = 0");
        doc.test("Returns how many of them were in it", "remove 0 0 4095 = 0", "add 0 10 19 = 10", "remove 0 15 24 = 5",
            "remove 0 15 24 = 0", "remove 0 0 9 = 0", "remove 0 0 10 = 1", "remove 0 0 4095 = 4");
        doc.test("BAD if there is no such set", run -> run.each("remove % 0 0 = BAD", NO_SETS));
        badRanges("remove");
    }

    private static void promise4() {
        doc.in("Promise 4: flip");
        doc.test("Adds the numbers that are not in a set, and removes those that are.", run -> {
            run.due("flip 0 10 19 = 10", "flip 0 15 24 = 5").runs(0, 10, 14, 20, 24);
            run.due("flip 0 0 4095 = 4086").runs(0, 0, 9, 15, 19, 25, 4095);
            run.due("flip 0 0 4095 = 10").runs(0, 10, 14, 20, 24).due("size 1 = 0");
            run.anew().due("flip 0 0 4095 = 4096", "flip 0 0 4095 = 0", "size 0 = 0", "flip 0 63 64 = 2")
                .runs(0, 63, 64);
        });
        rangeIsAct("flip", "9");
        doc.test("`s`: a set", run -> {
            run.each("flip % 7 9 = 3", 0, 1, 2, 3, 4, 5).each("flip % 8 8 = 0", 0, 1, 2, 3, 4, 5);
            run.each("size % = 2", 0, 1, 2, 3, 4, 5);
        });
        doc.test("`from`: the first number, 0 to 4095", "flip 0 0 4095 = 4096", "flip 0 4095 4095 = 0",
            "flip 0 0 0 = 0",
            "flip 0 0 0 = 1", "flip 0 -1 0 = BAD", "flip 0 4096 4096 = BAD", "size 0 = 4095");
        doc.test("`to`: the last number, from to 4095", "flip 0 9 9 = 1", "flip 0 9 8 = BAD", "flip 0 0 4096 = BAD",
            "flip 0 0 4095 = 4095", "flip 0 4095 4095 = 0");
        doc.test("Returns how many of them are in it then", "add 0 100 199 = 100", "flip 0 0 9 = 10", "flip 0 0 9 = 0",
            "flip 0 150 159 = 0", "flip 0 145 164 = 10", "flip 0 199 200 = 1", "flip 0 199 200 = 1", "size 0 = 90");
        doc.test("BAD if there is no such set", run -> run.each("flip % 0 0 = BAD", NO_SETS));
        badRanges("flip");
    }

    private static void promise5() {
        doc.in("Promise 5: scatter");
        doc.test("Adds numbers that a seed tells.", "add 0 5 9 = 5", "scatter 0 1 1 = 6", "contains 0 454 = 1",
            "contains 0 7 = 1", "scatter 0 1 1 = 6", "scatter 1 7 300 = 289", "scatter 1 8 300 = 556", "size 2 = 0");
        // 2207042835 / 65536 = 33676, and 33676 modulo 4096 = 908; as an int that x is negative.
        doc.test("With x = seed at first, for each of them x becomes 1103515245 * x + 12345 as an int with overflow, "
            + "and the number is the upper 16 bits of x as a number from 0 on, modulo 4096.", run -> {
                int[][] told = {{0, 0, 988, 1796, 1637}, {1, 454, 1662, 1921, 1131}, {2, 908, 2337, 2047, 626},
                    {-1, 3641, 313, 1670, 2142}, {-2, 3187, 3734, 1544, 2648}, {2263, 4095, 3903}, {3958, 0, 475}};
                for (int[] numbers : told) {
                    run.anew();
                    for (int many = 1; many < numbers.length; many++) {
                        run.due("scatter 0 " + numbers[0] + " " + many + " = " + many,
                            "contains 0 " + numbers[many] + " = 1");
                    }
                }
            });
        doc.test("This is an act.", run -> {
            run.isAct("scatter 0 1 300 = 293").isAct("scatter 0 1 1 = 1").due("undo = NONE", "add 0 454 454 = 1");
            run.due("scatter 0 1 1 = 1", "undo = 1", "scatter 0 1 0 = BAD", "scatter 6 1 1 = BAD", "undo = 0");
        });
        doc.test("`s`: a set", run -> {
            run.each("scatter % 0 3 = 3", 0, 1, 2, 3, 4, 5).each("size % = 3", 0, 1, 2, 3, 4, 5);
        });
        // 2^31 and 0 differ in the highest bit of x alone, which the remainder drops.
        doc.test("`seed`: any int", "scatter 0 LEAST 300 = 284", "scatter 1 0 300 = 284", "compare 0 1 1 = 0",
            "scatter 2 MOST 300 = 287", "scatter 3 -1 300 = 287", "compare 2 3 1 = 0", "scatter 4 -2 300 = 289");
        doc.test("`many`: 1 to 300", "scatter 0 1 1 = 1", "scatter 0 1 300 = 293", "scatter 0 1 0 = BAD",
            "scatter 0 1 301 = BAD", "size 0 = 293");
        // The seed 1390 tells 702 twice.
        doc.test("Returns how many numbers the set has then", "scatter 0 1390 1 = 1", "scatter 0 1390 2 = 1",
            "scatter 0 0 4 = 5", "scatter 0 0 4 = 5", "add 0 0 4095 = 4091", "scatter 0 5 300 = 4096");
        doc.test("BAD if there is no such set", run -> run.each("scatter % 1 1 = BAD", NO_SETS));
        doc.test("or many is not in its range", run -> {
            run.each("scatter 0 1 % = BAD", 0, 301, -1, -300, "LEAST", "MOST")
                .due("scatter 6 1 301 = BAD", "undo = NONE");
        });
    }

    private static void promise6() {
        doc.in("Promise 6: combine");
        doc.test("Combines two sets into a third one, which may be one of them.", run -> {
            run.due("add 0 0 299 = 300", "add 1 200 499 = 300", "add 2 9 9 = 1", "combine 2 0 1 2 = 400");
            run.runs(0, 0, 299).runs(1, 200, 499).runs(2, 0, 199, 300, 499);
            run.due("combine 3 0 1 0 = 200").runs(0, 0, 199).runs(1, 200, 499);
            run.due("combine 3 2 1 1 = 200").runs(1, 0, 199).runs(2, 0, 199, 300, 499);
            run.due("combine 2 2 2 2 = 0", "size 2 = 0", "combine 1 3 4 5 = 0", "size 5 = 0");
        });
        doc.test("This is an act.", run -> {
            run.isAct("combine 1 0 1 2 = 10", "add 0 0 9 = 10").anew().isAct("combine 0 0 0 0 = 0").due("undo = NONE");
            run.due("combine 4 0 0 0 = BAD", "combine 0 0 0 6 = BAD", "undo = NONE");
        });
        doc.test("For each piece that has numbers in both sets, that their kinds (as they were before this act) "
            + "met is counted.",
            run -> {
                run.due("add 0 0 4095 = 4096", "add 1 5 5 = 1", "add 1 4095 4095 = 1", "combine 2 0 1 2 = 4094");
                run.meetings(0, 0, 0, 2, 0, 0, 0, 0, 0).due("combine 0 0 3 4 = 0", "combine 1 3 4 4 = 0");
                run.meetings(0, 0, 0, 2, 0, 0, 0, 0, 0).due("combine 1 1 0 1 = 4096");
                run.meetings(0, 2, 0, 2, 0, 0, 0, 0, 0).due("combine 0 1 1 5 = 4096");
                run.meetings(0, 2, 0, 2, 16, 0, 0, 0, 0).due("undo = 4").meetings(0, 2, 0, 2, 0, 0, 0, 0, 0);
                run.due("combine 4 0 0 0 = BAD", "combine 0 0 0 6 = BAD").meetings(0, 2, 0, 2, 0, 0, 0, 0, 0);
                run.anew().due("add 0 255 255 = 1", "add 1 256 256 = 1", "combine 1 0 1 2 = 2");
                run.meetings(0, 0, 0, 0, 0, 0, 0, 0, 0);
                // The array is a bitmap behind the act; it was one before it.
                run.anew().bitmap(0, 0, 85).due("add 1 1 1 = 1", "combine 1 0 1 1 = 129")
                .meetings(0, 0, 0, 0, 0, 0, 1, 0, 0);
            });
    }

    private static void promise6Arguments() {
        doc.test("`op`: 0 numbers in both, 1 in at least one, 2 in just one, 3 in the first one, but not in "
            + "the second one",
            run -> {
                run.due("add 0 0 299 = 300", "add 1 200 499 = 300");
                run.due("combine 0 0 1 2 = 100").runs(2, 200, 299).due("combine 1 0 1 2 = 500").runs(2, 0, 499);
                run.due("combine 2 0 1 2 = 400").runs(2, 0, 199, 300, 499).due("combine 3 0 1 2 = 200").runs(2, 0, 199);
                run.due("combine 3 1 0 2 = 200").runs(2, 300, 499).due("combine -1 0 1 2 = BAD",
                    "combine 4 0 1 2 = BAD");
                run.anew().due("add 0 0 4095 = 4096", "combine 0 0 1 2 = 0", "combine 1 0 1 2 = 4096",
                    "combine 2 0 1 2 = 4096",
                    "combine 3 0 1 2 = 4096", "combine 3 1 0 2 = 0", "combine 2 0 0 2 = 0", "combine 3 0 0 2 = 0");
            });
        doc.test("`s`: the first set", run -> {
            run.due("add 0 0 9 = 10", "add 5 5 9 = 5", "combine 3 0 5 1 = 5", "combine 3 5 0 1 = 0");
            run.each("combine 1 % 0 0 = BAD", NO_SETS).due("size 0 = 10");
        });
        doc.test("`t`: the second set, possibly the same", run -> {
            run.due("add 3 0 9 = 10", "combine 0 3 3 4 = 10", "combine 1 3 3 4 = 10", "combine 2 3 3 4 = 0",
                "combine 3 3 3 4 = 0", "combine 0 3 3 3 = 10", "combine 2 3 3 3 = 0", "size 3 = 0");
            run.each("combine 1 0 % 0 = BAD", NO_SETS);
        });
        doc.test("`u`: the set that becomes what op tells", run -> {
            run.due("add 0 0 9 = 10").each("combine 1 0 0 % = 10", 1, 2, 3, 4, 5, 0)
                .each("size % = 10", 0, 1, 2, 3, 4, 5);
            run.each("combine 1 0 0 % = BAD", NO_SETS);
        });
        doc.test("Returns how many numbers it has then", "add 0 0 4095 = 4096", "combine 1 0 1 2 = 4096",
            "combine 0 0 1 2 = 0", "combine 2 0 0 0 = 0", "add 1 4095 4095 = 1", "combine 2 0 1 0 = 1");
        doc.test("BAD if an argument is not in its range", run -> {
            run.due("add 0 0 9 = 10").each("combine % 0 0 0 = BAD", -1, 4, "LEAST", "MOST")
                .each("combine % % % % = BAD", NO_SETS);
            run.each("combine 0 % 0 0 = BAD", NO_SETS).each("combine 0 0 % 0 = BAD", NO_SETS);
            run.each("combine 0 0 0 % = BAD", NO_SETS).due("undo = 0");
        });
    }

    private static void promise7() {
        doc.in("Promise 7: shift");
        doc.test("Moves all numbers of a set.", run -> {
            run.due("add 0 10 19 = 10", "add 0 250 260 = 11", "add 1 0 9 = 10", "shift 0 3 = 0")
                .runs(0, 13, 22, 253, 263);
            run.due("shift 0 -13 = 0").runs(0, 0, 9, 240, 250).due("shift 0 64 = 0").runs(0, 64, 73, 304, 314);
            run.due("shift 0 1001 = 0").runs(0, 1065, 1074, 1305, 1315).due("shift 0 -1000 = 0")
                .runs(0, 65, 74, 305, 315);
            run.due("shift 0 256 = 0").runs(0, 321, 330, 561, 571).due("shift 0 -128 = 0").runs(0, 193, 202, 433, 443);
            run.due("shift 0 0 = 0").runs(0, 193, 202, 433, 443).runs(1, 0, 9);
            run.anew().bitmap(0, 0, 85).due("shift 0 63 = 0", "size 0 = 128", "select 0 0 = 63", "select 0 127 = 317");
        });
        doc.test("This is an act.", run -> {
            run.isAct("shift 0 -4 = 4", "add 0 0 9 = 10").anew().isAct("shift 0 0 = 0").due("undo = NONE");
            run.due("shift 0 4096 = BAD", "shift 6 0 = BAD", "undo = NONE");
        });
        doc.test("`s`: a set", run -> {
            run.each("add % 7 9 = 3", 0, 1, 2, 3, 4, 5).each("shift % -8 = 1", 0, 1, 2, 3, 4, 5);
            run.each("size % = 2", 0, 1, 2, 3, 4, 5);
        });
        doc.test("`by`: -4095 to 4095", "add 0 0 4095 = 4096", "shift 0 -4095 = 4095", "select 0 0 = 0",
            "shift 0 4095 = 0",
            "select 0 0 = 4095", "shift 0 4095 = 1", "size 0 = 0", "shift 0 4096 = BAD", "shift 0 -4096 = BAD");
        doc.test("numbers that would not be from 0 to 4095 are lost", run -> {
            run.due("add 0 0 9 = 10", "add 0 4090 4095 = 6", "shift 0 3 = 3").runs(0, 3, 12, 4093, 4095);
            run.due("shift 0 -3 = 0").runs(0, 0, 9, 4090, 4092).due("shift 0 -1 = 1").runs(0, 0, 8, 4089, 4091);
            run.due("shift 0 4 = 0").runs(0, 4, 12, 4093, 4095).due("shift 0 -4095 = 11").runs(0, 0, 0);
        });
        doc.test("Returns how many numbers are lost", "shift 0 4095 = 0", "add 0 0 4095 = 4096", "shift 0 0 = 0",
            "shift 0 1 = 1",
            "shift 0 -1 = 0", "shift 0 -1 = 1", "shift 0 64 = 62", "shift 0 -100 = 36", "size 0 = 3996");
        doc.test("BAD if there is no such set", run -> run.each("shift % 0 = BAD", NO_SETS));
        doc.test("or by is not in its range", run -> {
            run.due("add 0 0 9 = 10").each("shift 0 % = BAD", 4096, -4096, "LEAST", "MOST").due("shift 6 4096 = BAD");
            run.due("size 0 = 10", "undo = 0");
        });
    }
}
