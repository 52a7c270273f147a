import java.util.Arrays;

/** The sentences ahead of the promises on the bytes of a set, the buffer and its error place. */
final class BufferSentences {
    private static Sentences doc;

    private BufferSentences() {
    }

    static void test(Sentences document) {
        doc = document;
        doc.in("Description");
        doc.nothingDue("BYTES.");
        written();
        buffer();
        firstBytesOfPieces();
        numbersAndPlaces();
        borders();
        wrongKinds();
    }

    private static void written() {
        doc.test("A set is written as the bytes of its pieces with numbers, one after the other by their numbers",
            run -> {
                run.written(0);
                run.due("add 0 4095 4095 = 1").written(0, 60, 1, 255);
                run.due("add 0 256 256 = 1").written(0, 4, 1, 0, 60, 1, 255);
                run.due("add 0 250 600 = 350");
                run.written(0, 1, 1, 250, 255, 5, 1, 0, 255, 9, 1, 0, 88, 60, 1, 255);
            });
        doc.test("first 4 * p plus the kind", run -> {
            for (int p = 0; p < 16; p++) {
                run.anew().due("add 0 " + 256 * p + " " + 256 * p + " = 1", "byteAt 0 0 = " + 4 * p);
                run.due("add 0 " + 256 * p + " " + (256 * p + 2) + " = 2", "byteAt 0 0 = " + (4 * p + 1));
                run.bitmap(0, p, 85).due("byteAt 0 0 = " + (4 * p + 2));
            }
        });
        doc.test("then, for an array, n and the places in ascending order", run -> {
            run.each("add 0 % % = 1", 1023, 768, 900).written(0, 12, 3, 0, 132, 255);
            run.anew().each("add 0 % % = 1", 0, 9, 4095).written(0, 0, 2, 0, 9, 60, 1, 255);
            run.anew().comb(0, 3, 31, 1).due("bytes 0 = 33", "byteAt 0 0 = 12", "byteAt 0 1 = 31");
            for (int i = 0; i < 31; i++) {
                run.due("byteAt 0 " + (2 + i) + " = " + 2 * i);
            }
        });
        doc.test("for runs, r and for each run in ascending order its first and its last place", run -> {
            run.due("add 0 767 768 = 2", "add 0 532 532 = 1", "add 0 520 530 = 11", "add 0 513 516 = 4");
            run.written(0, 9, 4, 1, 4, 8, 18, 20, 20, 255, 255, 12, 1, 0);
            run.anew().due("add 0 512 767 = 256").written(0, 9, 1, 0, 255);
            run.anew().due("add 0 0 2 = 3", "add 0 300 302 = 3").written(0, 1, 1, 0, 2, 5, 1, 44, 46);
            run.anew().comb(0, 15, 15, 3).due("bytes 0 = 32", "byteAt 0 0 = 61", "byteAt 0 1 = 15");
            for (int i = 0; i < 15; i++) {
                run.due("byteAt 0 " + (2 + 2 * i) + " = " + 4 * i, "byteAt 0 " + (3 + 2 * i) + " = " + (4 * i + 2));
            }
        });
        doc.test("for a bitmap 32 bytes, of which bit b (0 for the lowest one) of byte k tells whether the place "
            + "8 * k + b is in it", run -> {
                run.comb(0, 0, 32, 1).due("byteAt 0 0 = 2", "bytes 0 = 33", "byteAt 0 33 = NONE");
                run.each("byteAt 0 % = 85", 1, 2, 7, 8);
                run.each("byteAt 0 % = 0", 9, 10, 31, 32);
                run.due("flip 0 64 64 = 1", "byteAt 0 9 = 1", "flip 0 71 71 = 1", "byteAt 0 9 = 129");
                run.due("flip 0 255 255 = 1", "byteAt 0 32 = 128", "flip 0 248 248 = 1", "byteAt 0 32 = 129");
                run.due("flip 0 127 128 = 2", "byteAt 0 16 = 128", "byteAt 0 17 = 1", "flip 0 0 7 = 4",
                    "byteAt 0 1 = 170");
            });
    }

    private static void buffer() {
        doc.test("There is a buffer of at most 200 bytes", run ->
            run.fill(199, 64).due("put 0 = 200", "put 0 = FULL", "put 255 = FULL", "clear = 200", "put 0 = 1"));
        doc.test("initially empty", "clear = 0", "read 0 = 0", "put 0 = 1");
        doc.test("from which a set can be read", run -> {
            run.put(60, 1, 255).due("read 5 = 1", "select 5 0 = 4095");
            run.put(1, 1, 250, 255, 5, 1, 0, 255, 9, 1, 0, 88, 60, 1, 255).due("read 5 = 352")
                .runs(5, 250, 600, 4095, 4095);
            run.bitmap(5, 15, 85).due("contains 5 3840 = 1", "contains 5 4094 = 1", "contains 5 4095 = 0",
                "size 5 = 128");
        });
        doc.test("The error place of the buffer is the index of the first byte that cannot stand at its place", run -> {
            run.put(64, 64).due("read 0 = -100");
            run.anew().put(0, 0, 64).due("read 0 = -101");
            run.anew().put(0, 1, 5, 64, 3, 3).due("read 0 = -103");
            run.anew().put(0, 3, 9, 8, 7, 64).due("read 0 = -103");
            run.anew().put(1, 2, 9, 8, 7, 6).due("read 0 = -103");
        });
        doc.test("or its length if it ends too early", run -> {
            int[][] whole = {{0, 1, 5}, {0, 3, 5, 7, 9}, {1, 1, 5, 9}, {1, 2, 5, 9, 11, 20}};
            for (int[] bytes : whole) {
                for (int end = 1; end < bytes.length; end++) {
                    run.anew().put(Arrays.copyOf(bytes, end)).due("read 0 = " + (-100 - end));
                    // The bytes that stood behind the end until the buffer was emptied count no longer.
                    run.anew().put(bytes).due("clear = " + bytes.length);
                    run.put(Arrays.copyOf(bytes, end)).due("read 0 = " + (-100 - end));
                }
            }
            run.anew().put(2);
            for (int end = 1; end < 33; end++) {
                run.due("read 0 = " + (-100 - end)).put(85);
            }
            run.due("read 0 = 128");
            endsOfFullBuffers(run);
        });
        doc.test("(an empty buffer is the empty set)", "add 0 0 9 = 10", "read 0 = 0", "size 0 = 0", "put 64 = 1",
            "clear = 1", "read 1 = 0");
    }

    /** Five bitmaps and an array, so that a number of bytes is still to come until the buffer is full. */
    private static Run nearlyFull(Run run, int toCome) {
        run.anew();
        for (int p = 0; p < 5; p++) {
            run.put(4 * p + 2).fill(32, 85);
        }
        int places = 33 - toCome;
        run.put(20, places);
        for (int i = 0; i < places; i++) {
            run.put(2 * i);
        }
        return run;
    }

    private static void endsOfFullBuffers(Run run) {
        nearlyFull(run, 3).put(24, 1, 7).due("put 28 = FULL", "read 0 = " + (5 * 128 + 31));
        nearlyFull(run, 3).put(24, 2, 7).due("read 0 = -300", "put 9 = FULL");
        nearlyFull(run, 3).put(25, 1, 7).due("read 0 = -300");
        nearlyFull(run, 3).put(26, 1, 7).due("read 0 = -300");
        nearlyFull(run, 3).put(24, 255, 7).due("read 0 = -300");
        nearlyFull(run, 4).put(25, 1, 7, 9).due("put 28 = FULL", "read 0 = " + (5 * 128 + 29 + 3));
        for (int kind = 0; kind < 3; kind++) {
            // The last byte that there is room for begins a piece, or is its second one.
            nearlyFull(run, 4).put(24, 1, 7).due("read 5 = " + (5 * 128 + 29 + 1));
            nearlyFull(run, 4).put(24, 1, 7).put(28 + kind).due("read 0 = -300", "put 0 = FULL");
            nearlyFull(run, 2).put(24 + kind).due("read 0 = -299").put(1).due("read 0 = -300", "put 0 = FULL");
        }
    }

    private static void firstBytesOfPieces() {
        doc.test("A byte that begins a piece cannot stand there if it is greater than 63", run -> {
            for (int b : new int[] {64, 65, 66, 128, 254, 255}) {
                run.anew().put(b, 1, 7).due("read 0 = -100");
                run.anew().put(60, 1, 7, b, 1, 7).due("read 0 = -103");
            }
            run.anew().put(60, 1, 7).due("read 0 = 1");
            run.put(61, 1, 7, 9).due("read 0 = 3");
            run.bitmap(0, 15, 85);
        });
        doc.test("if its kind would be 3", run -> {
            for (int p = 0; p < 16; p++) {
                run.anew().put(4 * p + 3, 1, 7).due("read 0 = -100", "clear = 3").put(0, 1, 7, 4 * p + 3, 1)
                    .due("read 0 = -103");
            }
        });
        doc.test("or if its piece is not greater than that of the piece before it", run -> {
            run.put(4, 1, 7, 4, 1, 8).due("read 0 = -103");
            run.anew().put(4, 1, 7, 5, 1, 10, 20).due("read 0 = -103");
            run.anew().put(5, 1, 10, 20, 4, 1, 7).due("read 0 = -104");
            run.anew().put(4, 1, 7, 6).due("read 0 = -103");
            run.anew().put(4, 1, 7, 0, 1, 8).due("read 0 = -103");
            run.anew().put(60, 1, 7, 60, 1, 8).due("read 0 = -103");
            run.anew().put(0, 1, 7, 60, 1, 7, 4, 1, 7).due("read 0 = -106");
            run.anew().put(2).fill(32, 85).put(2).fill(32, 85).due("read 0 = -133");
            run.anew().put(0, 1, 7, 4, 1, 7).due("read 0 = 2");
            run.anew();
            for (int p = 0; p < 16; p++) {
                run.put(4 * p, 1, p);
            }
            run.put(60).due("read 0 = -148", "clear = 49");
            for (int p = 0; p < 16; p++) {
                run.put(4 * p + 1, 1, 0, 255);
            }
            run.due("read 0 = 4096");
        });
    }

    private static void numbersAndPlaces() {
        doc.test("A number n or r must be at least 1", run -> {
            run.put(0, 0).due("read 0 = -101");
            run.anew().put(1, 0).due("read 0 = -101");
            run.anew().put(0, 0, 4, 1, 7).due("read 0 = -101");
            run.anew().put(0, 1, 7, 4, 0).due("read 0 = -104");
            run.anew().put(0, 1, 7, 5, 0).due("read 0 = -104");
            run.anew().put(0, 1, 0).due("read 0 = 1");
            run.anew().put(1, 1, 0, 2).due("read 0 = 3");
            // A bitmap has no number: its first byte may be 0.
            run.anew().put(2, 0).fill(31, 85).due("read 0 = 124");
        });
        doc.test("the places of an array must ascend", run -> {
            run.put(0, 2, 5, 5).due("read 0 = -103");
            run.anew().put(0, 2, 5, 4).due("read 0 = -103");
            run.anew().put(0, 2, 0, 0).due("read 0 = -103");
            run.anew().put(0, 2, 255, 0).due("read 0 = -103");
            run.anew().put(0, 2, 255, 255).due("read 0 = -103");
            run.anew().put(0, 3, 5, 9, 9).due("read 0 = -104");
            run.anew().put(0, 4, 5, 9, 7, 10).due("read 0 = -104");
            run.anew().put(0, 2, 5, 6).due("read 0 = 2");
            run.anew().put(60, 2, 0, 255).due("read 0 = 2", "select 0 0 = 3840", "select 0 1 = 4095");
            // The places of a piece begin anew.
            run.anew().put(0, 1, 255, 4, 1, 0).due("read 0 = 2");
        });
    }

    private static void borders() {
        doc.test("the first place of a run must be greater by at least 2 than the last place of the run before it",
            run -> {
                run.put(1, 2, 0, 5, 6, 9).due("read 0 = -104");
                run.anew().put(1, 2, 0, 5, 5, 9).due("read 0 = -104");
                run.anew().put(1, 2, 0, 5, 4, 9).due("read 0 = -104");
                run.anew().put(1, 2, 9, 15, 0, 7).due("read 0 = -104");
                run.anew().put(1, 2, 0, 5, 7, 9).due("read 0 = 9").runs(0, 0, 5, 7, 9);
                run.anew().put(1, 2, 0, 254, 255, 255).due("read 0 = -104");
                run.anew().put(1, 2, 0, 253, 255, 255).due("read 0 = 255");
                run.anew().put(1, 2, 0, 254, 0, 1).due("read 0 = -104");
                run.anew().put(1, 2, 0, 255, 1, 2).due("read 0 = -104");
                run.anew().put(1, 3, 0, 5, 7, 9, 10, 12).due("read 0 = -106");
                run.anew().put(1, 1, 0, 255, 5, 1, 0, 255).due("read 0 = 512").runs(0, 0, 511);
            });
        doc.test("its last place at least its first one", run -> {
            run.put(1, 1, 5, 4).due("read 0 = -103");
            run.anew().put(1, 1, 255, 0).due("read 0 = -103");
            run.anew().put(1, 2, 0, 5, 7, 6).due("read 0 = -105");
            run.anew().put(1, 2, 0, 5, 7, 7).due("read 0 = 7").runs(0, 0, 5, 7, 7);
            run.anew().put(61, 2, 0, 0, 2, 255).due("read 0 = 255").runs(0, 3840, 3840, 3842, 4095);
        });
    }

    private static void wrongKinds() {
        doc.test("A piece that is written rightly by this (for a bitmap: all its 32 bytes are there)", run -> {
            run.put(2).fill(31, 0).due("read 0 = -132").put(0).due("read 0 = -100");
            run.anew().put(0, 1, 7, 6).fill(31, 0).due("read 0 = -135").put(0).due("read 0 = -103");
            run.anew().put(0, 3, 1, 2).due("read 0 = -104").put(3).due("read 0 = -100");
        });
        doc.test("but has no numbers", run -> {
            run.put(2).fill(32, 0).due("read 0 = -100");
            run.anew().put(60, 1, 7).due("read 0 = 1").put(62).fill(32, 0).due("read 0 = -100");
        });
        doc.test("or would have another kind", run -> {
            run.put(0, 3, 1, 2, 3).due("read 0 = -100");
            run.anew().put(1, 1, 7, 7).due("read 0 = -100");
            run.anew().put(1, 1, 7, 8).due("read 0 = -100");
            run.anew().put(1, 2, 7, 8, 10, 11).due("read 0 = -100");
            run.anew().put(2, 255).fill(31, 0).due("read 0 = -100");
            run.anew().put(2).fill(32, 255).due("read 0 = -100");
            run.anew().put(2, 1, 1, 1).fill(29, 0).due("read 0 = -100");
            for (int many = 31; many < 33; many++) {
                run.anew().put(0, many);
                for (int i = 0; i < many; i++) {
                    run.put(3 * i);
                }
                run.due("read 0 = " + (many == 31 ? 31 : -100));
            }
            for (int many = 15; many < 17; many++) {
                run.anew().put(1, many);
                for (int i = 0; i < many; i++) {
                    run.put(8 * i, 8 * i + 5);
                }
                run.due("read 0 = " + (many == 15 ? 90 : -100));
            }
            // 31 places apart are an array, not a bitmap: both take 33 bytes; 32 are a bitmap.
            run.anew().put(2).fill(31, 16).put(0).due("read 0 = -100");
            run.anew().put(2).fill(32, 16).due("read 0 = 32");
        });
        doc.test("has its error place at its first byte", run -> {
            run.put(4, 1, 7, 8, 3, 1, 2, 3).due("read 0 = -103");
            run.anew().put(4, 1, 7, 9, 1, 7, 8).due("read 0 = -103");
            run.anew().put(1, 1, 0, 9, 6, 128).fill(31, 0).due("read 0 = -104");
            run.anew().put(0, 3, 1, 2, 3, 60, 3, 1, 2, 3).due("read 0 = -100");
        });
        doc.test("this is found when the piece is at its end", run -> {
            run.put(0, 3, 1, 2, 2).due("read 0 = -104");
            run.anew().put(1, 2, 7, 7, 8, 8).due("read 0 = -104");
            run.anew().put(0, 3, 1, 2, 3, 64).due("read 0 = -100");
            run.anew().put(0, 3, 1, 2, 3, 0).due("read 0 = -100");
            run.anew().put(2).fill(32, 0).put(255).due("read 0 = -100");
        });
        doc.test("(an n or r with which the kind cannot be the cheapest is no error by itself)", run -> {
            for (int many : new int[] {32, 100, 129, 255}) {
                for (int kind = 0; kind < 2; kind++) {
                    run.anew().put(kind, many).due("read 0 = -102").put(1, 3).due("read 0 = -104");
                    run.put(kind == 0 ? 3 : 4).due("read 0 = -104");
                }
            }
            run.anew().put(1, 16).due("read 0 = -102").put(0, 9, 9).due("read 0 = -104");
        });
    }
}
