/** The sentences ahead of the promises on an object's life, acts and history, errors and the constants. */
final class StatesSentences {
    private static final String[] ACTS = {"add 0 5 4095 = 4091", "remove 0 5 4095 = 0", "flip 0 5 4095 = 4091",
        "scatter 0 0 1 = 1", "combine 1 0 0 0 = 0", "shift 0 9 = 0", "read 0 = 0"};
    private static final String[] NO_ACTS = {"size 0 = 0", "contains 0 0 = 0", "rank 0 0 = 0", "select 0 0 = NONE",
        "near 0 0 true = NONE", "runs 0 = 0", "run 0 0 = NONE", "piece 0 0 0 = NONE", "bytes 0 = 0",
        "byteAt 0 0 = NONE", "compare 0 0 4 = NONE", "alike 0 0 true = 1", "met 0 0 = 0", "converted 0 1 = 0",
        "undo = NONE", "put 64 = 1", "read 0 = -100", "clear = 1"};
    /** One refused call or more for each word BAD, FULL and NONE, and for the error places. */
    private static final String[] REFUSED = {"add 6 0 0 = BAD", "add 0 0 4096 = BAD", "remove 6 0 0 = BAD",
        "remove 0 -1 0 = BAD", "flip 6 0 0 = BAD", "flip 0 1 0 = BAD", "scatter 6 1 1 = BAD", "scatter 0 1 0 = BAD",
        "scatter 0 1 301 = BAD", "combine 4 0 1 2 = BAD", "combine 1 6 1 2 = BAD", "combine 1 0 6 2 = BAD",
        "combine 1 0 1 6 = BAD", "shift 6 1 = BAD", "shift 0 4096 = BAD", "shift 0 -4096 = BAD", "size 6 = BAD",
        "contains 6 0 = BAD", "rank 6 0 = BAD", "select 6 0 = BAD", "select 0 -1 = BAD", "select 0 4096 = NONE",
        "near 6 0 true = BAD", "near 5 0 true = NONE", "runs 6 = BAD", "run 6 0 = BAD", "run 0 -1 = BAD",
        "run 0 2048 = NONE", "piece 6 0 0 = BAD", "piece 0 16 0 = BAD", "piece 0 0 4 = BAD", "piece 5 0 0 = NONE",
        "bytes 6 = BAD", "byteAt 6 0 = BAD", "byteAt 0 -1 = BAD", "byteAt 0 528 = NONE", "put 256 = BAD",
        "put -1 = BAD", "read 6 = BAD", "compare 6 0 0 = BAD", "compare 0 6 0 = BAD", "compare 0 0 5 = BAD",
        "compare 0 0 4 = NONE", "alike 6 0 true = BAD", "alike 0 6 false = BAD", "met 3 0 = BAD", "met 0 3 = BAD",
        "converted 3 0 = BAD", "converted 0 3 = BAD", "converted 1 1 = BAD"};

    private static Sentences doc;

    private StatesSentences() {
    }

    static void test(Sentences document) {
        doc = document;
        life();
        doc.in("Description");
        doc.nothingDue("ACTS AND HISTORY.", "ERRORS.", "The constants:",
            "The constructor and the methods follow, a promise each: the signature, then what it does.");
        history();
        errors();
        constants();
    }

    private static void life() {
        doc.in("What it is");
        doc.nothingDue("Sets of numbers kept in pieces: each piece is held as an array, as runs or as a bitmap, "
            + "whichever is cheapest; sets are changed by values and ranges, combined piece by piece, asked for ranks "
            + "and selections, written as bytes and read from bytes, compared by fractions, and it is told which kinds "
            + "met and what was converted.");
        doc.test("An object is used for at most 512 calls after it has been made", run -> {
            for (int i = 0; i < 511; i++) {
                run.due("flip 0 " + 8 * i + " " + (8 * i + 1) + " = 2");
            }
            run.due("size 0 = 1022");
            run.anew().due("add 0 0 4095 = 4096");
            for (int i = 1; i < 511; i++) {
                run.due("combine 1 0 0 1 = 4096");
            }
            run.due("met 1 1 = " + 16 * 510);
            conversionsOfLife(allKinds(run.anew()));
            meetingsOfLife(allKinds(run.anew()));
            statesOfLife(run.anew());
        });
        doc.nothingDue("what later calls answer is free");
    }

    /** Every piece is an array in set 0, runs in set 1, a bitmap in set 2. */
    private static Run allKinds(Run run) {
        return run.due("scatter 0 7 300 = 289", "add 1 0 4095 = 4096", "scatter 2 7 300 = 289",
            "scatter 2 8 300 = 556", "scatter 2 9 300 = 809");
    }

    private static void conversionsOfLife(Run run) {
        int[] sizes = {289, 4096, 809};
        int[] order = {0, 1, 2, 0, 2, 1};
        run.due("combine 1 0 5 3 = 289");
        for (int i = 1; i <= 480; i++) {
            int s = order[i % 6];
            run.due("combine 1 " + s + " 5 3 = " + sizes[s]);
        }
        // One more 0 2 from set 2 itself.
        run.conversions(1280, 1296, 1280, 1280, 1280, 1280).due("undo = 4");
        run.conversions(1280, 1296, 1264, 1280, 1280, 1280).due("undo = 3", "undo = 2", "undo = 1", "undo = 0");
        run.conversions(1280, 1280, 1264, 1264, 1264, 1264).due("undo = NONE");
    }

    private static void meetingsOfLife(Run run) {
        // As set 2 has the numbers of set 0, both in all are those of the lesser one.
        int[] sizes = {289, 289, 289, 289, 4096, 809, 289, 809, 809};
        for (int i = 0; i < 486; i++) {
            run.due("combine 0 " + i % 9 / 3 + " " + i % 3 + " 3 = " + sizes[i % 9]);
        }
        run.meetings(864, 864, 864, 864, 864, 864, 864, 864, 864).due("undo = 4");
        run.meetings(864, 864, 864, 864, 864, 864, 864, 864, 848);
    }

    private static void statesOfLife(Run run) {
        run.each("add 0 % % = 1", 0, 2, 4, 6, 8);
        for (int i = 0; i < 168; i++) {
            run.due("add 1 " + 9 * i + " " + 9 * i + " = 1", "undo = 4", "add 2 " + 9 * i + " " + 9 * i + " = 1");
        }
        run.due("size 1 = 0", "size 2 = 168");
    }

    private static void history() {
        doc.test("A history of at most 5 states of all sets and all counts is kept", run -> {
            long[] prints = new long[8];
            for (int i = 0; i < 8; i++) {
                prints[i] = run.print();
                run.due("add " + i % 6 + " " + 9 * i + " " + 9 * i + " = 1");
            }
            for (int left = 4; left >= 0; left--) {
                run.due("undo = " + left, "fingerprint = " + prints[3 + left]);
            }
            run.due("undo = NONE", "fingerprint = " + prints[3]);
            run.anew().due("add 0 0 1 = 2", "add 0 2 2 = 1", "combine 0 0 0 5 = 3");
            run.meetings(0, 0, 0, 0, 1, 0, 0, 0, 0).conversions(1, 0, 0, 0, 0, 0);
            run.due("undo = 2", "size 5 = 0").meetings(0, 0, 0, 0, 0, 0, 0, 0, 0).conversions(1, 0, 0, 0, 0, 0);
            run.due("undo = 1", "size 0 = 2").conversions(0, 0, 0, 0, 0, 0);
            for (int pair = 0; pair < 9; pair++) {
                countsOfStates(run.anew(), pair / 3, pair % 3);
            }
        });
        doc.test("Each call described as an act that returns no error adds the state before it", run -> {
            for (String act : ACTS) {
                run.anew().isAct(act).due("undo = NONE");
            }
            run.anew().due(NO_ACTS).due("undo = NONE");
            for (String refused : REFUSED) {
                run.anew().due(refused, "undo = NONE");
            }
        });
        doc.test("also if it leaves all as it was", "add 0 7 7 = 1", "undo = 0", "remove 0 0 4095 = 0", "undo = 0",
            "shift 0 0 = 0", "undo = 0", "combine 0 0 0 0 = 0", "undo = 0", "read 0 = 0", "undo = 0", "add 0 0 0 = 1",
            "add 0 0 0 = 0", "scatter 0 0 1 = 1", "combine 1 0 0 0 = 1", "undo = 3", "undo = 2", "undo = 1",
            "size 0 = 1",
            "undo = 0", "size 0 = 0", "undo = NONE");
        doc.test("if there are 5 already, the oldest one is dropped", run -> {
            for (int i = 0; i < 6; i++) {
                run.due("add 0 " + i + " " + i + " = 1");
            }
            run.due("undo = 4", "undo = 3", "undo = 2", "undo = 1", "undo = 0", "size 0 = 1", "undo = NONE",
                "size 0 = 1");
            run.anew();
            for (int i = 0; i < 5; i++) {
                run.due("add 0 " + i + " " + i + " = 1");
            }
            run.due("undo = 4", "undo = 3", "undo = 2", "undo = 1", "undo = 0", "size 0 = 0", "undo = NONE",
                "size 0 = 0");
        });
        doc.test("undo() removes the latest one and restores it", "add 0 0 9 = 10", "add 0 20 29 = 10", "undo = 1",
            "size 0 = 10", "add 0 40 49 = 10", "add 0 60 69 = 10", "undo = 2", "size 0 = 20", "contains 0 20 = 0",
            "contains 0 40 = 1", "undo = 1", "contains 0 40 = 0", "undo = 0", "size 0 = 0", "undo = NONE");
        doc.test("(The buffer does not belong to a state.)", run -> {
            run.put(0, 1).due("add 0 9 9 = 1").put(5).due("undo = 0", "put 64 = 4", "clear = 4");
            run.put(0, 1, 5).due("read 0 = 1", "undo = 0", "size 0 = 0", "read 0 = 0", "clear = 0");
            for (String act : ACTS) {
                if (!act.startsWith("read")) {
                    run.anew().put(0, 1).due(act).put(5).due("undo = 0", "put 4 = 4", "put 0 = 5");
                    run.due("read 1 = -104", "clear = 5");
                }
            }
        });
    }

    /** Each count is in the states kept, also in those of later acts that leave it as it is. */
    private static void countsOfStates(Run run, int a, int b) {
        String met = "met " + a + " " + b + " = ";
        run.make(0, a).make(1, b).due("combine 0 0 1 2 = " + Run.inBoth(a, b), met + 1, "shift 5 0 = 0", met + 1,
            "undo = 3",
            met + 1, "undo = 2").meetings(0, 0, 0, 0, 0, 0, 0, 0, 0);
        if (a != b) {
            String converted = "converted " + a + " " + b + " = ";
            run.make(0, b).due(converted + 1, "shift 5 0 = 0", converted + 1, "undo = 3", converted + 1, "undo = 2");
            run.conversions(0, 0, 0, 0, 0, 0);
        }
    }

    private static void errors() {
        doc.test("A call that returns an error changes nothing", run -> {
            busy(run);
            long print = run.print();
            for (String refused : REFUSED) {
                run.due(refused, "fingerprint = " + print);
            }
            run.put(64).due("read 0 = -103", "read 5 = -103", "fingerprint = " + print, "clear = 4", "undo = 4");
            busy(run.anew()).due(REFUSED).due("read 0 = 1");
            run.anew().fill(200, 64).each("put % = FULL", 0, 255).due("read 0 = -100", "clear = 200");
            run.anew().due("undo = NONE", "undo = NONE", "add 0 1 1 = 1", "undo = 0", "size 0 = 0");
        });
        doc.test("If several errors apply to a call, the one listed first is returned", run -> {
            run.due("select 6 0 = BAD", "select 0 -1 = BAD", "near 6 0 true = BAD", "near -1 MOST false = BAD",
                "run 6 0 = BAD", "run 0 -1 = BAD", "piece 6 0 0 = BAD", "piece 0 16 0 = BAD", "byteAt 6 0 = BAD",
                "byteAt 0 -1 = BAD", "compare 6 6 4 = BAD", "compare 0 6 4 = BAD");
            run.fill(200, 64).due("put 256 = BAD", "put -1 = BAD", "put 0 = FULL", "read 6 = BAD", "read -1 = BAD",
                "read 0 = -100");
        });
    }

    /** Five states are kept, kinds have met, pieces been converted,
        and the buffer holds a set; set 5 alone is empty. */
    private static Run busy(Run run) {
        run.bitmap(0, 0, 85).due("scatter 1 7 300 = 289", "add 2 0 599 = 600", "combine 1 0 2 3 = 600",
            "combine 2 0 1 4 = 399", "remove 4 1 4095 = 398", "combine 0 0 0 0 = 128");
        return run.put(0, 1, 5);
    }

    private static void constants() {
        doc.test("- `BAD = -1`: An argument is not allowed, or there is no such thing.", "size 6 = -1", "put 256 = -1",
            "select 0 -1 = -1", "met 3 0 = -1", "shift 0 4096 = -1");
        doc.test("- `FULL = -3`: There is no room.", run -> run.fill(200, 0).due("put 0 = -3"));
        doc.test("- `NONE = -9`: There is none.", "select 0 0 = -9", "near 0 0 true = -9", "run 0 0 = -9",
            "piece 0 0 0 = -9", "byteAt 0 0 = -9", "compare 0 0 4 = -9", "undo = -9");
    }
}
