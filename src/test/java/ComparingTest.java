/** Promises 21 to 24: sets compared, kinds that met, conversions. */
public final class ComparingTest {
    private static final int BAD = PieceSets.BAD;
    private static final int NONE = PieceSets.NONE;
    private static final int LEAST = Integer.MIN_VALUE;
    private static final int MOST = Integer.MAX_VALUE;
    private static final int[] NO_SETS = {-1, 6, LEAST, MOST};
    private static final Checks CHECKS = new Checks();

    private static void due(String what, long got, long want) {
        CHECKS.due(what, got, want);
    }

    private static void compareDue(PieceSets x, int s, int t, int... answers) {
        for (int what = 0; what < 5; what++) {
            due("21: compare " + s + " " + t + " " + what, x.compare(s, t, what), answers[what]);
        }
    }

    private static void promise21Compare() {
        PieceSets x = new PieceSets();
        x.add(0, 100, 299);
        x.add(1, 200, 599);
        x.add(2, 210, 220);
        x.add(4, 0, 4095);
        compareDue(x, 0, 1, 100, 400, 0, 13, 100);
        compareDue(x, 1, 0, 100, 400, 0, 13, 100);
        compareDue(x, 2, 0, 11, 189, 1, 14, 100);
        compareDue(x, 0, 2, 11, 189, 0, 14, 100);
        compareDue(x, 0, 0, 200, 0, 1, 16, NONE);
        compareDue(x, 3, 0, 0, 200, 1, 14, 100);
        compareDue(x, 0, 3, 0, 200, 0, 14, 100);
        compareDue(x, 3, 5, 0, 0, 1, 16, NONE);
        compareDue(x, 4, 3, 0, 4096, 0, 0, 0);
        compareDue(x, 4, 4, 4096, 0, 1, 16, NONE);
        x.remove(4, 4095, 4095);
        x.add(3, 0, 4095);
        compareDue(x, 3, 4, 4095, 1, 0, 15, 4095);
        due("21: no what 5", x.compare(0, 1, 5), BAD);
        due("21: no what -1", x.compare(0, 1, -1), BAD);
        due("21: no such what", x.compare(0, 1, MOST) + x.compare(0, 1, LEAST), 2 * BAD);
        for (int s : NO_SETS) {
            for (int what = -1; what < 6; what++) {
                due("21: no first set", x.compare(s, 0, what), BAD);
                due("21: no second set", x.compare(0, s, what), BAD);
            }
        }
    }

    private static void alikeDue(PieceSets x, int s, int t, int above, int below) {
        due("22: above, " + s + " " + t, x.alike(s, t, false), above);
        due("22: below, " + s + " " + t, x.alike(s, t, true), below);
        due("22: above, " + t + " " + s, x.alike(t, s, false), above);
        due("22: below, " + t + " " + s, x.alike(t, s, true), below);
    }

    private static void promise22Alike() {
        PieceSets x = new PieceSets();
        alikeDue(x, 0, 1, 1, 1);
        x.add(0, 0, 99);
        alikeDue(x, 0, 1, 0, 1);
        alikeDue(x, 0, 0, 1, 1);
        x.add(1, 50, 99);
        alikeDue(x, 0, 1, 1, 2);
        x.add(1, 100, 119);
        alikeDue(x, 0, 1, 5, 12);
        x.add(2, 4000, 4095);
        alikeDue(x, 0, 2, 0, 1);
        x.add(3, 0, 4095);
        alikeDue(x, 2, 3, 3, 128);
        x.add(4, 0, 4094);
        alikeDue(x, 3, 4, 4095, 4096);
        for (int s : NO_SETS) {
            due("22: no first set", x.alike(s, 0, true), BAD);
            due("22: no second set", x.alike(0, s, false), BAD);
        }
    }

    /** Makes piece 0 of a set one of a kind: 2 numbers, 100 in a run, or every third one. */
    private static void makeKind(PieceSets x, int s, int kind) {
        x.remove(s, 0, 255);
        if (kind == 0) {
            x.add(s, 3, 4);
        } else if (kind == 1) {
            x.add(s, 0, 99);
        } else {
            x.put(2);
            for (int k = 0; k < 32; k++) {
                x.put(85);
            }
            x.read(s);
        }
    }

    private static void promise23Met() {
        for (int a = 0; a < 3; a++) {
            for (int b = 0; b < 3; b++) {
                PieceSets x = new PieceSets();
                makeKind(x, 0, a);
                makeKind(x, 1, b);
                for (int op = 0; op < 4; op++) {
                    x.combine(op, 0, 1, 2);
                }
                for (int k = 0; k < 9; k++) {
                    due("23: " + a + " met " + b, x.met(k / 3, k % 3), k == 3 * a + b ? 4 : 0);
                }
                x.combine(1, 0, 1, 0);
                due("23: as they were before", x.met(a, b), 5);
                x.undo();
                due("23: undone", x.met(a, b), 4);
            }
        }
    }

    private static void whoMeets() {
        PieceSets x = new PieceSets();
        x.add(0, 0, 4095);
        x.add(1, 5, 5);
        x.add(1, 4095, 4095);
        x.combine(2, 0, 1, 2);
        due("23: pieces with numbers in both", x.met(1, 0), 2);
        due("23: the other way round", x.met(0, 1), 0);
        x.combine(0, 0, 0, 3);
        due("23: a set with itself", x.met(1, 1), 16);
        x.combine(0, 4, 5, 4);
        x.combine(0, 0, 5, 4);
        due("23: nobody meets in empty pieces", x.met(0, 0), 0);
        x.compare(0, 1, 0);
        x.alike(0, 1, true);
        due("23: only combine counts", x.met(1, 0), 2);
        x.combine(4, 0, 1, 2);
        x.combine(0, 0, 1, 6);
        due("23: not with an error", x.met(1, 0), 2);
        int[] bad = {-1, 3, LEAST, MOST};
        for (int kind : bad) {
            due("23: no first kind", x.met(kind, 0), BAD);
            due("23: no second kind", x.met(0, kind), BAD);
        }
    }

    private static void promise24Converted() {
        for (int from = 0; from < 3; from++) {
            for (int to = 0; to < 3; to++) {
                PieceSets x = new PieceSets();
                makeKind(x, 0, from);
                makeKind(x, 1, to);
                x.combine(1, 1, 1, 0);
                for (int k = 0; k < 9; k++) {
                    int want = k / 3 == k % 3 ? BAD : k == 3 * from + to ? 1 : 0;
                    due("24: " + from + " to " + to, x.converted(k / 3, k % 3), want);
                }
                x.undo();
                due("24: undone", x.converted(from, to), from == to ? BAD : 0);
            }
        }
        PieceSets x = new PieceSets();
        int[] bad = {-1, 3, LEAST, MOST};
        for (int kind : bad) {
            due("24: no first kind", x.converted(kind, 0), BAD);
            due("24: no second kind", x.converted(0, kind), BAD);
            due("24: no kinds", x.converted(kind, kind), BAD);
        }
    }

    private static void eachActConverts() {
        PieceSets x = new PieceSets();
        x.add(0, 5, 6);
        due("24: from nothing is none", x.converted(0, 1) + x.converted(0, 2), 0);
        x.add(0, 7, 7);
        due("24: by add", x.converted(0, 1), 1);
        x.remove(0, 6, 6);
        due("24: by remove", x.converted(1, 0), 1);
        x.flip(0, 6, 6);
        due("24: by flip", x.converted(0, 1), 2);
        x.shift(0, -6);
        due("24: by shift", x.converted(1, 0), 2);
        x.remove(0, 0, 4095);
        x.add(0, 5, 99);
        due("24: over an empty piece is none", x.converted(0, 1), 2);
        x.scatter(1, 7, 300);
        x.scatter(1, 8, 300);
        x.scatter(1, 9, 300);
        due("24: by scatter, once for the act", x.converted(0, 2) > 5 && x.converted(0, 2) < 17 ? 1 : 0, 1);
        PieceSets all = new PieceSets();
        for (int p = 0; p < 16; p++) {
            all.add(2, 256 * p, 256 * p);
        }
        all.add(2, 0, 4095);
        due("24: many pieces in one act", all.converted(0, 1), 16);
        all.undo();
        due("24: undone", all.converted(0, 1), 0);
        due("24: undo converts none", all.converted(1, 0), 0);
    }

    public static void main(String[] args) {
        promise21Compare();
        promise22Alike();
        promise23Met();
        whoMeets();
        promise24Converted();
        eachActConverts();
        CHECKS.end();
    }
}
