/** The sentences of promises 15 to 20: pieces, bytes written, the buffer and bytes read. */
final class BytesSentences {
    private static final Object[] NO_SETS = {-1, 6, "LEAST", "MOST"};
    private static final Object[] SETS = {0, 1, 2, 3, 4, 5};

    private static Sentences doc;

    private BytesSentences() {
    }

    static void test(Sentences document) {
        doc = document;
        promise15();
        promise16();
        promise17();
        promise18();
        promise19();
        promise20();
    }

    private static void promise15() {
        doc.in("Promise 15: piece");
        doc.test("Returns a number of a piece.", run -> {
            run.due("add 0 250 600 = 351").piece(0, 0, 1, 6, 1, 4).piece(0, 1, 1, 256, 1, 4).piece(0, 2, 1, 89, 1, 4);
            run.piece(0, 3, PieceSets.NONE, 0, 0, 0).piece(1, 1, PieceSets.NONE, 0, 0, 0);
        });
        doc.test("`s`: a set", run -> {
            for (int s = 0; s < 6; s++) {
                run.due("add " + s + " 1 " + (s + 1) + " = " + (s + 1));
            }
            for (int s = 0; s < 6; s++) {
                run.piece(s, 0, s < 2 ? 0 : 1, s + 1, 1, s == 0 ? 3 : 4);
            }
            for (int what = 0; what < 4; what++) {
                run.each("piece % 0 " + what + " = BAD", NO_SETS);
            }
        });
        doc.test("`p`: a piece, 0 to 15", run -> {
            run.due("add 0 0 0 = 1", "add 0 4094 4095 = 2").piece(0, 0, 0, 1, 1, 3).piece(0, 15, 0, 2, 1, 4);
            for (int what = 0; what < 4; what++) {
                run.each("piece 0 % " + what + " = BAD", -1, 16, "LEAST", "MOST");
            }
        });
        doc.test("`what`: 0 its kind (NONE if it has none)", run -> {
            run.each("piece 0 % 0 = NONE", 0, 7, 15).due("add 0 0 0 = 1", "add 0 256 258 = 3", "piece 0 0 0 = 0",
                "piece 0 1 0 = 1");
            run.bitmap(1, 15, 85).due("piece 1 15 0 = 2", "remove 0 0 0 = 1", "piece 0 0 0 = NONE");
        });
        doc.test("1 the number of its numbers", "piece 0 0 1 = 0", "add 0 0 255 = 256", "piece 0 0 1 = 256",
            "remove 0 9 9 = 1",
            "piece 0 0 1 = 255", "piece 0 1 1 = 0");
        doc.test("2 the number of its runs", run -> {
            run.due("piece 0 0 2 = 0", "add 0 255 256 = 2", "piece 0 0 2 = 1", "piece 0 1 2 = 1", "add 0 258 258 = 1",
                "piece 0 1 2 = 2", "add 0 63 64 = 2", "piece 0 0 2 = 2").bitmap(1, 3, 85).due("piece 1 3 2 = 128");
            run.bitmap(1, 3, 170).due("piece 1 3 2 = 128");
        });
        doc.test("3 its bytes", run -> {
            run.due("piece 0 0 3 = 0", "add 0 7 7 = 1", "piece 0 0 3 = 3", "add 0 8 8 = 1", "piece 0 0 3 = 4",
                "add 0 9 9 = 1",
                "piece 0 0 3 = 4", "add 0 11 11 = 1", "piece 0 0 3 = 6", "add 0 0 255 = 252", "piece 0 0 3 = 4");
            run.bitmap(1, 3, 85).due("piece 1 3 3 = 33");
        });
        doc.test("Returns that number", run -> {
            run.comb(0, 3, 10, 2).piece(0, 3, 0, 20, 10, 22).anew().comb(0, 3, 10, 3).piece(0, 3, 1, 30, 10, 22);
            run.anew().comb(0, 3, 20, 3).piece(0, 3, 2, 60, 20, 33);
        });
        doc.test("BAD if an argument is not in its range", run -> {
            run.due("add 0 0 9 = 10").each("piece 0 0 % = BAD", -1, 4, "LEAST", "MOST");
            run.each("piece 0 5 % = BAD", -1, 4, "LEAST", "MOST").each("piece % % % = BAD", -1, "LEAST", "MOST");
            run.due("piece 6 0 0 = BAD", "piece 0 16 0 = BAD", "piece 6 16 4 = BAD");
        });
    }

    private static void promise16() {
        doc.in("Promise 16: bytes");
        doc.test("Returns the number of bytes with which a set is written.", run -> {
            run.due("add 1 255 600 = 346").written(1, 0, 1, 255, 5, 1, 0, 255, 9, 1, 0, 88).due("bytes 1 = 11");
            run.bitmap(0, 0, 85).due("bytes 0 = 33", "add 0 4095 4095 = 1", "bytes 0 = 36");
        });
        doc.test("`s`: a set", run -> {
            for (int s = 0; s < 6; s++) {
                run.comb(s, 0, s + 1, 1).due("bytes " + s + " = " + (s + 3));
            }
            run.each("bytes % = BAD", NO_SETS);
        });
        doc.test("Returns the number of bytes;", run -> {
            run.due("bytes 0 = 0", "add 0 9 9 = 1", "bytes 0 = 3", "add 0 0 4095 = 4095", "bytes 0 = 64",
                "remove 0 0 4095 = 4096", "bytes 0 = 0");
            // All pieces bitmaps: the most bytes that a set can have.
            run.bitmap(1, 0, 85);
            for (int by = 256; by < 4096; by *= 2) {
                run.due("combine 1 1 1 2 = " + by / 2, "shift 2 " + by + " = 0", "combine 1 1 2 1 = " + by);
            }
            run.due("bytes 1 = 528", "byteAt 1 0 = 2", "byteAt 1 495 = 62", "byteAt 1 527 = 85", "byteAt 1 528 = NONE");
        });
        doc.test("BAD if there is no such set", run -> run.due("add 0 9 9 = 1").each("bytes % = BAD", NO_SETS));
    }

    private static void promise17() {
        doc.in("Promise 17: byteAt");
        doc.test("Returns a byte with which a set is written.", run -> {
            run.due("add 0 255 600 = 346", "add 0 4090 4090 = 1");
            run.written(0, 0, 1, 255, 5, 1, 0, 255, 9, 1, 0, 88, 60, 1, 250);
            run.anew().due("add 0 0 4095 = 4096");
            for (int p = 0; p < 16; p++) {
                run.due("byteAt 0 " + 4 * p + " = " + (4 * p + 1), "byteAt 0 " + (4 * p + 1) + " = 1",
                    "byteAt 0 " + (4 * p + 2) + " = 0", "byteAt 0 " + (4 * p + 3) + " = 255");
            }
        });
        doc.test("`s`: a set", run -> {
            for (int s = 0; s < 6; s++) {
                run.due("add " + s + " " + 7 * s + " " + 7 * s + " = 1").written(s, 0, 1, 7 * s);
            }
        });
        doc.test("`i`: its index, from 0", "add 0 4095 4095 = 1", "byteAt 0 0 = 60", "byteAt 0 1 = 1",
            "byteAt 0 2 = 255",
            "byteAt 0 3 = NONE", "byteAt 0 -1 = BAD");
        doc.test("Returns the byte, 0 to 255", run -> {
            run.due("add 0 0 0 = 1", "byteAt 0 0 = 0", "byteAt 0 2 = 0", "add 0 255 255 = 1", "byteAt 0 3 = 255");
            // A bitmap whose bytes have their highest bit too.
            run.anew().comb(0, 0, 20, 1).due("add 0 128 254 = 127", "byteAt 0 17 = 255", "byteAt 0 31 = 255",
                "byteAt 0 32 = 127", "flip 0 247 248 = 0", "byteAt 0 31 = 127", "byteAt 0 32 = 126", "byteAt 0 1 = 85");
        });
        doc.test("BAD if there is no such set", run -> run.due("add 0 9 9 = 1").each("byteAt % 0 = BAD", NO_SETS));
        doc.test("or i is negative", run -> {
            run.due("add 0 9 9 = 1").each("byteAt 0 % = BAD", -1, -3, "LEAST").each("byteAt 1 % = BAD", -1, "LEAST");
            run.due("byteAt 6 -1 = BAD");
        });
        doc.test("NONE if there are not so many", run -> {
            run.each("byteAt 0 % = NONE", 0, 1, 33, "MOST").due("add 0 9 9 = 1")
                .each("byteAt 0 % = NONE", 3, 4, 65536, "MOST");
            run.due("add 0 0 4095 = 4095", "byteAt 0 63 = 255").each("byteAt 0 % = NONE", 64, 65, 528, "MOST");
            run.bitmap(0, 0, 85).due("byteAt 0 32 = 85", "byteAt 0 33 = NONE");
        });
    }

    private static void promise18() {
        doc.in("Promise 18: put");
        doc.test("Appends a byte to the buffer.", run -> {
            run.put(0).put(2).put(7).put(9).due("read 0 = 2", "select 0 0 = 7", "select 0 1 = 9", "undo = 0");
            run.due("undo = NONE");
        });
        doc.test("`b`: 0 to 255", "put 0 = 1", "put 255 = 2", "put -1 = BAD", "put 256 = BAD", "clear = 2");
        doc.test("Returns the number of bytes in the buffer", run -> {
            run.fill(200, 7).due("clear = 200", "put 7 = 1", "put 7 = 2", "clear = 2").put(0, 1, 9)
                .due("read 0 = 1", "put 7 = 1");
        });
        doc.test("BAD if b is not in its range", run -> {
            run.put(0).each("put % = BAD", -1, 256, 511, -256, "LEAST", "MOST").due("put 1 = 2").fill(198, 7);
            run.each("put % = BAD", -1, 256, "LEAST", "MOST").due("clear = 200");
        });
        doc.test("FULL if there are 200", run -> {
            run.fill(199, 7).due("put 255 = 200").each("put % = FULL", 0, 7, 255)
                .due("clear = 200", "put 7 = 1", "clear = 1");
        });
    }

    private static void promise19() {
        doc.in("Promise 19: clear");
        doc.test("Empties the buffer.", run -> {
            run.put(64).due("clear = 1", "read 0 = 0", "undo = 0", "undo = NONE");
            run.put(0, 1, 5).due("clear = 3", "put 4 = 1", "put 1 = 2", "put 9 = 3", "read 0 = 1", "select 0 0 = 265");
            run.due("size 0 = 1");
        });
        doc.test("Returns the number of bytes that it had.", run -> {
            run.due("clear = 0", "clear = 0").put(9).due("clear = 1", "clear = 0").fill(200, 9)
                .due("put 9 = FULL", "clear = 200");
            run.due("clear = 0").put(0, 1, 5).due("read 0 = 1", "clear = 0", "put 64 = 1", "read 0 = -100",
                "clear = 1");
        });
    }

    private static void promise20() {
        doc.in("Promise 20: read");
        doc.test("Makes a set that of the buffer.", run -> {
            run.due("add 0 0 4095 = 4096").put(0, 3, 1, 4, 9, 5, 2, 0, 9, 20, 30).due("read 0 = 24");
            run.runs(0, 1, 1, 4, 4, 9, 9, 256, 265, 276, 286).due("size 1 = 0");
            // What is written is read, and written again.
            run.anew().bitmap(0, 1, 85).due("add 0 3 3 = 1", "add 0 600 767 = 168").put(0, 1, 3, 6).fill(32, 85);
            run.put(9, 1, 88, 255).due("read 1 = 297", "compare 0 1 1 = 0", "bytes 1 = 40");
        });
        doc.test("The buffer is empty then", run -> {
            run.put(0, 1, 5).due("read 0 = 1", "clear = 0", "read 0 = 0", "size 0 = 0").put(0, 1, 9)
                .due("read 0 = 1", "select 0 0 = 9");
        });
        doc.test("(with an error it stays)", run -> {
            run.put(0, 1).due("read 0 = -102", "read 6 = BAD", "read 0 = -102").put(5)
                .due("read 6 = BAD", "read 0 = 1", "clear = 0");
            run.put(64).due("read 0 = -100", "read 1 = -100", "put 64 = 2", "clear = 2");
        });
        doc.test("This is an act.", run -> {
            run.put(0, 1, 5).isAct("read 0 = 1").due("clear = 0").isAct("read 0 = 0").isAct("read 0 = 0");
            run.due("undo = NONE").put(64).due("read 0 = -100", "read 6 = BAD", "undo = NONE");
        });
        doc.test("`s`: a set", run -> {
            for (int s = 0; s < 6; s++) {
                run.put(0, 1, s).due("read " + s + " = 1");
            }
            for (int s = 0; s < 6; s++) {
                run.due("select " + s + " 0 = " + s, "size " + s + " = 1");
            }
        });
        doc.test("Returns how many numbers the set has then", run -> {
            run.due("add 0 0 9 = 10", "read 0 = 0").put(0, 1, 5).due("read 0 = 1").bitmap(0, 0, 85);
            for (int p = 0; p < 16; p++) {
                run.put(4 * p + 1, 1, 0, 255);
            }
            run.due("read 0 = 4096").bitmap(0, 15, 127);
        });
        doc.test("BAD if there is no such set", run -> {
            run.put(0, 1, 5).each("read % = BAD", NO_SETS).put(64).each("read % = BAD", NO_SETS).due("read 0 = -103");
            run.due("clear = 4").each("read % = BAD", NO_SETS).due("undo = NONE");
        });
        doc.test("-100 minus the error place if the buffer has an error", run -> {
            run.put(3).each("read % = -100", SETS).due("clear = 1").put(0).due("read 0 = -101").put(2, 5)
                .due("read 0 = -103");
            run.put(5).due("read 0 = -103", "clear = 4");
            // The farthest ones: the last byte that there is room for, and the end of a full buffer.
            sixBitmaps(run).put(24).due("put 0 = 200", "read 0 = -299");
            sixBitmaps(run).put(63).due("read 0 = -298", "put 0 = 200", "read 0 = -298");
            sixBitmaps(run).put(24, 1).due("read 0 = -300", "put 0 = FULL", "clear = 200");
        });
    }

    /** 198 bytes: two more are left to come. */
    private static Run sixBitmaps(Run run) {
        run.anew();
        for (int p = 0; p < 6; p++) {
            run.put(4 * p + 2).fill(32, 85);
        }
        return run;
    }
}
