/** The sentences ahead of the promises on sets, their pieces and kinds, and conversions. */
final class KindsSentences {
    private static Sentences doc;

    private KindsSentences() {
    }

    static void test(Sentences document) {
        doc = document;
        doc.in("Description");
        doc.nothingDue("SETS.", "KINDS.");
        sets();
        kinds();
        cheapestKinds();
        conversions();
        conversionsThatAreNone();
    }

    private static void sets() {
        doc.test("There are six sets, 0 to 5", run -> {
            for (int s = 0; s < 6; s++) {
                run.due("add " + s + " 0 " + s + " = " + (s + 1));
            }
            for (int s = 0; s < 6; s++) {
                run.due("size " + s + " = " + (s + 1));
            }
            run.due("size -1 = BAD", "size 6 = BAD");
        });
        doc.test("of numbers from 0 to 4095", "add 0 0 4095 = 4096", "near 0 LEAST true = 0",
            "near 0 MOST false = 4095",
            "contains 0 -1 = 0", "contains 0 4096 = 0", "add 1 0 0 = 1", "add 1 4095 4095 = 1", "add 1 -1 -1 = BAD",
            "add 1 4096 4096 = BAD", "size 1 = 2");
        doc.test("all are empty at first", run -> {
            for (int s = 0; s < 6; s++) {
                run.due("size " + s + " = 0", "runs " + s + " = 0", "bytes " + s + " = 0",
                    "near " + s + " LEAST true = NONE");
            }
        });
        doc.test("A set is divided into 16 pieces", run -> {
            run.due("add 0 0 4095 = 4096");
            for (int p = 0; p < 16; p++) {
                run.due("piece 0 " + p + " 1 = 256");
            }
            run.due("piece 0 -1 1 = BAD", "piece 0 16 1 = BAD");
        });
        doc.test("piece p has its numbers from 256 * p to 256 * p + 255", run -> {
            for (int p = 0; p < 16; p++) {
                int first = 256 * p;
                int last = first + 255;
                run.anew().due("add 0 " + first + " " + first + " = 1", "piece 0 " + p + " 1 = 1",
                    "add 0 " + last + " " + last + " = 1", "piece 0 " + p + " 1 = 2",
                    "add 0 " + first + " " + last + " = 254", "piece 0 " + p + " 1 = 256",
                    "compare 0 1 3 = 15", "flip 0 0 4095 = 3840", "piece 0 " + p + " 1 = 0", "compare 0 1 3 = 1");
            }
        });
        doc.test("A number x of a piece has the place x - 256 * p in it", run -> {
            for (int p = 0; p < 16; p++) {
                int first = 256 * p;
                int last = first + 255;
                run.anew().each("add 0 % % = 1", first, first + 1, first + 127, first + 128, last)
                    .written(0, 4 * p, 5, 0, 1, 127, 128, 255);
            }
        });
    }

    private static void kinds() {
        doc.test("A piece with numbers has n of them in r runs", run -> {
            run.due("add 0 3 3 = 1").piece(0, 0, 0, 1, 1, 3);
            run.due("add 0 9 9 = 1").piece(0, 0, 0, 2, 2, 4);
            run.due("add 0 4 8 = 5").piece(0, 0, 1, 7, 1, 4);
            run.due("add 0 0 255 = 249").piece(0, 0, 1, 256, 1, 4);
            run.due("remove 0 254 254 = 1").piece(0, 0, 1, 255, 2, 6);
        });
        doc.test("where a run is a longest stretch of successive places", run -> {
            run.due("add 0 254 257 = 4", "piece 0 0 2 = 1", "piece 0 1 2 = 1", "add 0 252 252 = 1", "piece 0 0 2 = 2",
                "add 0 253 253 = 1", "piece 0 0 2 = 1", "runs 0 = 1", "add 0 63 64 = 2", "piece 0 0 2 = 2");
            run.anew().comb(0, 9, 128, 1).due("piece 0 9 2 = 128", "shift 0 1 = 0", "piece 0 9 2 = 128");
            run.anew().due("add 0 0 4095 = 4096").each("piece 0 % 2 = 1", 0, 1, 7, 8, 14, 15);
            // The runs of the pieces beside it are not its own.
            run.anew().each("add 0 % % = 1", 0, 9, 300).due("add 0 256 258 = 3", "add 0 600 600 = 1");
            run.piece(0, 0, 0, 2, 2, 4).piece(0, 1, 0, 4, 2, 6).piece(0, 2, 0, 1, 1, 3);
            run.anew().due("add 0 0 2 = 3", "add 0 300 302 = 3").piece(0, 0, 1, 3, 1, 4).piece(0, 1, 1, 3, 1, 4);
        });
        doc.test("It has a kind: 0 array, which takes 2 + n bytes", run -> {
            run.comb(0, 0, 1, 1).piece(0, 0, 0, 1, 1, 3);
            run.anew().comb(0, 15, 31, 1).piece(0, 15, 0, 31, 31, 33);
        });
        doc.test("1 runs, which takes 2 + 2 * r bytes", run -> {
            run.comb(0, 0, 1, 3).piece(0, 0, 1, 3, 1, 4);
            run.anew().comb(0, 15, 15, 3).piece(0, 15, 1, 45, 15, 32);
            run.anew().due("add 0 256 511 = 256").piece(0, 1, 1, 256, 1, 4);
        });
        doc.test("or 2 bitmap, which takes 33 bytes", run -> {
            run.comb(0, 0, 32, 1).piece(0, 0, 2, 32, 32, 33);
            run.anew().comb(0, 15, 128, 1).piece(0, 15, 2, 128, 128, 33);
            run.anew().comb(0, 7, 16, 15).piece(0, 7, 2, 240, 16, 33);
        });
        doc.test("A piece without numbers has no kind, and takes 0 bytes", run -> {
            run.piece(0, 0, PieceSets.NONE, 0, 0, 0).piece(5, 15, PieceSets.NONE, 0, 0, 0);
            run.due("add 0 0 255 = 256", "remove 0 0 255 = 256");
            run.piece(0, 0, PieceSets.NONE, 0, 0, 0).due("bytes 0 = 0");
        });
    }

    private static void cheapestKinds() {
        doc.test("it is always the kind that takes fewest bytes", run -> {
            run.comb(0, 3, 1, 1).piece(0, 3, 0, 1, 1, 3);
            run.due("add 0 769 770 = 2").piece(0, 3, 1, 3, 1, 4);
            run.anew().comb(0, 3, 31, 1).piece(0, 3, 0, 31, 31, 33);
            run.due("add 0 900 900 = 1").piece(0, 3, 2, 32, 32, 33);
            run.anew().comb(0, 3, 15, 3).piece(0, 3, 1, 45, 15, 32);
            run.due("add 0 900 902 = 3").piece(0, 3, 2, 48, 16, 33);
            run.due("add 0 903 1023 = 121").piece(0, 3, 2, 169, 16, 33);
            run.due("add 0 771 771 = 1").piece(0, 3, 1, 170, 15, 32);
        });
        doc.test("of several the smallest number", run -> {
            run.comb(0, 0, 1, 2).piece(0, 0, 0, 2, 1, 4);
            run.anew().comb(0, 0, 15, 2).piece(0, 0, 0, 30, 15, 32);
            run.due("add 0 2 2 = 1").piece(0, 0, 1, 31, 14, 30);
            run.anew().comb(0, 0, 15, 2).due("add 0 99 99 = 1").piece(0, 0, 0, 31, 16, 33);
            run.due("add 0 100 100 = 1").piece(0, 0, 2, 32, 16, 33);
            // Also if the kind before was the other one that takes as many.
            run.due("remove 0 100 100 = 1").piece(0, 0, 0, 31, 16, 33).conversions(0, 1, 0, 0, 1, 0);
            run.anew().comb(0, 0, 32, 1).due("remove 0 62 62 = 1").piece(0, 0, 0, 31, 31, 33);
            run.anew().due("add 0 0 2 = 3", "add 0 4 5 = 2").piece(0, 0, 1, 5, 2, 6);
            run.due("remove 0 2 2 = 1").piece(0, 0, 0, 4, 2, 6).conversions(0, 0, 1, 0, 0, 0);
        });
    }

    private static void conversions() {
        doc.test("whatever act it is", run -> {
            run.due("add 0 5 6 = 2", "add 0 7 7 = 1").conversions(1, 0, 0, 0, 0, 0);
            run.due("remove 0 6 6 = 1").conversions(1, 0, 1, 0, 0, 0);
            run.due("flip 0 6 6 = 1").conversions(2, 0, 1, 0, 0, 0);
            run.due("shift 0 -6 = 1").conversions(2, 0, 2, 0, 0, 0);
            run.due("add 1 0 9 = 10", "combine 0 1 1 0 = 10").conversions(3, 0, 2, 0, 0, 0);
            run.put(0, 1, 7).due("read 0 = 1").conversions(3, 0, 3, 0, 0, 0);
            run.due("add 2 1 2 = 2", "scatter 2 0 1 = 3").conversions(4, 0, 3, 0, 0, 0);
            run.bitmap(0, 0, 85).conversions(4, 1, 3, 0, 0, 0);
            run.due("add 0 0 255 = 128").conversions(4, 1, 3, 0, 0, 1);
            run.bitmap(0, 0, 170).conversions(4, 1, 3, 1, 0, 1);
            run.due("shift 0 250 = 0").conversions(4, 1, 3, 1, 1, 1);
        });
        doc.test("this is counted, once for the act", run -> {
            for (int p = 0; p < 16; p++) {
                run.due("add 0 " + 256 * p + " " + 256 * p + " = 1");
            }
            run.due("add 0 0 4095 = 4080").conversions(16, 0, 0, 0, 0, 0);
            run.due("combine 1 0 0 1 = 4096").conversions(16, 0, 0, 0, 0, 0);
            // The seed 14 tells 2264, with which the piece would be runs, then 2240, with which it is an array again.
            run.anew().due("add 0 2265 2266 = 2", "scatter 0 14 2 = 4").conversions(0, 0, 0, 0, 0, 0);
            run.due("piece 0 8 0 = 0", "remove 0 2240 2240 = 1").conversions(1, 0, 0, 0, 0, 0);
            run.anew().due("scatter 1 7 300 = 289", "scatter 1 8 300 = 556", "scatter 1 9 300 = 809");
            run.due("converted 0 1 = 0", "converted 0 2 = 16");
        });
    }

    private static void conversionsThatAreNone() {
        doc.test("A CONVERSION: whenever a piece of a set has numbers behind an act", run -> {
            run.due("add 0 0 9 = 10", "remove 0 0 9 = 10").conversions(0, 0, 0, 0, 0, 0);
            run.due("add 0 0 9 = 10", "flip 0 0 9 = 0").conversions(0, 0, 0, 0, 0, 0);
            run.due("add 0 0 9 = 10", "shift 0 -10 = 10").conversions(0, 0, 0, 0, 0, 0);
            run.due("add 0 0 9 = 10", "combine 2 0 0 0 = 0").conversions(0, 0, 0, 0, 0, 0);
            run.due("add 0 0 9 = 10", "read 0 = 0").conversions(0, 0, 0, 0, 0, 0);
        });
        doc.test("and had numbers before this act", run -> {
            run.due("add 0 0 0 = 1", "add 1 0 9 = 10").bitmap(2, 0, 85).conversions(0, 0, 0, 0, 0, 0);
            run.due("remove 0 0 0 = 1", "add 0 0 9 = 10").conversions(0, 0, 0, 0, 0, 0);
            run.due("add 3 255 255 = 1", "shift 1 256 = 0", "shift 3 1 = 0").conversions(0, 0, 0, 0, 0, 0);
        });
        doc.test("but another kind", run -> {
            run.due("add 0 5 5 = 1", "add 0 9 9 = 1", "shift 0 90 = 0").conversions(0, 0, 0, 0, 0, 0);
            run.due("add 1 0 9 = 10", "remove 1 0 1 = 2", "flip 1 20 40 = 21").conversions(0, 0, 0, 0, 0, 0);
            run.bitmap(2, 3, 85).due("combine 2 2 0 2 = 130").bitmap(2, 3, 170).conversions(0, 0, 0, 0, 0, 0);
            run.due("add 1 0 9 = 2", "add 0 0 9 = 10").conversions(1, 0, 0, 0, 0, 0);
        });
    }
}
