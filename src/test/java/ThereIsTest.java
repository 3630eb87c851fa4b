import java.util.Random;

/** Promises 6 to 12: what there is. */
public final class ThereIsTest {
    private static final Check CHECK = new Check("ThereIsTest");
    private static final int[] NO_DESK = {-1, 2, Integer.MIN_VALUE, Integer.MAX_VALUE};
    private static final int[] NO_PLACE = {-1, 26, Integer.MIN_VALUE, Integer.MAX_VALUE};

    public static void main(String[] args) {
        testAbout();
        testDesk();
        testNote();
        testPlace();
        testPath();
        testMixings();
        testShare();
        testRefusals();
        CHECK.end();
    }

    /** With the first settings the notes 0 and 16 of the desk 0 are the same one, and the desk 1 has a common path. */
    private static Run someBranches() {
        Run x = new Run();
        x.branch(0, false);  // right: strength 1 says not taken
        x.branch(0, false);  // right
        x.branch(16, false); // right, a clash in both desks
        x.branch(0, true);   // wrong, a clash in both desks
        x.branch(0, true);   // wrong
        return x;
    }

    private static void about(Run x, int... due) {
        for (int what = 0; what < due.length; what++) {
            CHECK.same("about(" + what + ")", x.about(what), due[what]);
        }
    }

    private static void testAbout() {
        Run x = someBranches();
        // desk 1's paths: 0, 0, 0, 0, 1: its notes for the place 0 and 16 are 0, 0, 0, 0, 1
        about(x, 5, 3, 3 - 2 * 2, 2, 2, 0, 3, 4, 2, 2);
        x.branch(5, false);
        about(x, 6, 4, 0, 2, 2, 1, 3, 4, 2, 2);
        x.branch(6, false);
        // desk 1: the path is 6 behind the branch at 5: note 6 ^ 6 = 0, a clash with the place 0
        about(x, 7, 5, 1, 2, 3, 2, 3, 4, 2, 2);
        x.branch(7, false);
        x.branch(8, false);
        // desk 1: the paths 12 and 8: the notes 7 ^ 12 = 11, and 8 ^ 8 = 0, a clash with the place 6
        about(x, 9, 7, 3, 2, 4, 4, 4, 4, 2, 2);
        Run y = new Run();
        y.set(2, 9);
        y.set(0, 3);
        y.set(1, 1);
        about(y, 0, 0, 0, 0, 0, 0, 0, 3, 1, 9);
        y.branch(0, true);
        about(y, 1, 0, -9, 0, 0, 0, 0, 3, 1, 9);
        y.branch(0, true);
        y.branch(0, true);
        about(y, 3, 2, -7, 0, 0, 2, 2, 3, 1, 9);
        Run z = new Run();
        z.set(2, 0);
        z.branch(0, true);
        about(z, 1, 0, 0, 0, 0, 0, 0, 4, 2, 0);
    }

    private static void desk(Run x, int d, int... due) {
        for (int what = 0; what < due.length; what++) {
            CHECK.same("desk(" + d + ", " + what + ")", x.desk(d, what), due[what]);
        }
    }

    private static void testDesk() {
        Run x = someBranches();
        // desk 0: strengths of its note: 1 0 0 0 1 2, never at least 2 before a branch: right three times
        desk(x, 0, 0, 0, 0, 3, 1);
        // desk 1: note 0: right three times, wrong once; note 1: says not taken, wrong
        desk(x, 1, 3, 4, 0, 3, 2);
        x.branch(16, true);
        // desk 0 had the strength 2 at last: right; desk 1: path 3, note (16 ^ 3) % 16 = 3: wrong
        desk(x, 0, 0, 0, 0, 4, 1);
        desk(x, 1, 3, 4, 0, 3, 3);
        x.setDesk(0, 0, 4);
        x.setDesk(0, 1, 6);
        x.setDesk(0, 2, 1);
        desk(x, 0, 4, 6, 1, 0, 0);
        desk(x, 1, 3, 4, 0, 0, 0);
    }

    private static void note(Run x, int d, int i, int... due) {
        for (int what = 0; what < due.length; what++) {
            CHECK.same("note(" + d + ", " + i + ", " + what + ")", x.note(d, i, what), due[what]);
        }
    }

    private static void testNote() {
        Run x = someBranches();
        note(x, 0, 0, 2, 0, 5, 3);
        note(x, 0, 1, 1, Check.NONE, 0, 0);
        note(x, 1, 0, 1, 0, 4, 3);
        note(x, 1, 1, 2, 0, 1, 0);
        note(x, 1, 15, 1, Check.NONE, 0, 0);
        x.branch(16, true);
        note(x, 0, 0, 3, 16, 6, 4);
        note(x, 1, 3, 2, 16, 1, 0);
        x.branch(16, true);
        note(x, 0, 0, 3, 16, 7, 5);
        for (int size = 2; size <= 6; size++) {
            x.set(0, size);
            int behind = 1 << size;
            note(x, 0, behind - 1, 1, Check.NONE, 0, 0);
            CHECK.refuses(Check.INDEX, "note(0, 2^size, 0)", () -> x.note(0, behind, 0));
            CHECK.refuses(Check.INDEX, "note(1, 2^size, 0)", () -> x.note(1, behind, 0));
        }
        for (int middle = 1; middle <= 4; middle++) {
            x.set(1, middle);
            note(x, 0, 0, middle - 1, Check.NONE, 0, 0);
            note(x, 1, 63, middle - 1, Check.NONE, 0, 0);
        }
    }

    private static void place(Run x, int p, int... due) {
        for (int what = 0; what < due.length; what++) {
            CHECK.same("place(" + p + ", " + what + ")", x.place(p, what), due[what]);
        }
    }

    private static void testPlace() {
        Run x = someBranches();
        place(x, 0, 4, 2, 2, 1, 1);
        place(x, 16, 1, 0, 1, 1, 1);
        place(x, 1, 0, 0, 0, 1, 0);
        place(x, 25, 0, 0, 0, 1, 0);
        // desk 0 says taken, desk 1 (note 3) says not: desk 0 is right
        x.branch(0, true);
        place(x, 0, 5, 3, 3, 0, 1);
        // again, note 7, and the desk 1 is right: the chooser goes up from 0 to 3, and changes the guess at 2
        x.branch(0, false);
        place(x, 0, 6, 3, 3, 1, 1);
        x.branch(0, false);
        place(x, 0, 7, 3, 3, 2, 0);
        place(x, 16, 1, 0, 1, 1, 0);
    }

    private static void paths(Run x, int d, int due, int... places) {
        for (int p : places) {
            CHECK.same("path(" + d + ", " + p + ")", x.path(d, p), due);
        }
    }

    private static void testPath() {
        Run x = new Run();
        x.setDesk(0, 1, 2);
        x.setDesk(0, 2, 1);
        x.setDesk(1, 1, 6);
        int[] ways = {1, 0, 1, 1, 0, 1, 1};
        for (int k = 0; k < ways.length; k++) {
            x.branch(k % 2 == 0 ? 3 : 25, ways[k] == 1);
        }
        paths(x, 0, 0b01, 3);
        paths(x, 0, 0b11, 25);
        paths(x, 0, 0, 0, 1, 2, 4, 24);
        paths(x, 1, 0b011011, 0, 3, 25);
        x.setDesk(1, 1, 0);
        x.branch(3, true);
        paths(x, 1, 0, 0, 3, 25);
        paths(x, 0, 1, 3);
        paths(x, 0, 0, 0);
    }

    /** The note of each mixing, for a path of 5 of the length 3, with a size of 4. */
    private static void testMixings() {
        int[][] due = {
            {0, 3, 9, 15, 9}, {5, 5, 5, 5, 5}, {5, 8, 14, 4, 14}, {5, 6, 12, 10, 12}, {5, 13, 13, 13, 13},
        };
        int[] places = {0, 3, 9, 15, 25};
        for (int mixing = 0; mixing <= 4; mixing++) {
            for (int d = 0; d < 2; d++) {
                Run x = new Run();
                x.setDesk(d, 0, mixing);
                x.setDesk(d, 1, 3);
                x.branch(7, true);
                x.branch(8, false);
                x.branch(9, true);
                CHECK.same("path(" + d + ", 0)", x.path(d, 0), 5);
                for (int k = 0; k < places.length; k++) {
                    CHECK.same("noteOf(" + d + ", " + places[k] + ") by mixing " + mixing,
                            x.noteOf(d, places[k]), due[mixing][k]);
                }
            }
        }
        Run x = new Run();
        x.set(0, 6);
        x.setDesk(0, 0, 4);
        x.setDesk(0, 1, 1);
        x.branch(25, true);
        CHECK.same("noteOf(0, 25): 2 * 25 + 1", x.noteOf(0, 25), 51);
        CHECK.same("noteOf(0, 0)", x.noteOf(0, 0), 1);
        x.set(0, 2);
        x.branch(25, true);
        CHECK.same("noteOf(0, 25) by size 2", x.noteOf(0, 25), 3);
    }

    private static void testShare() {
        Run x = new Run();
        CHECK.same("share(3) of none", x.share(3), Check.NONE);
        x.branch(3, false);
        CHECK.same("share(3) 0 of 1", x.share(3), 0);
        x.branch(3, true);
        CHECK.same("share(3) 1 of 2", x.share(3), 0x3F000000);
        x.branch(3, true);
        CHECK.same("share(3) 2 of 3", x.share(3), 0x3F2AAAAB);
        CHECK.same("share(2) of none", x.share(2), Check.NONE);
        x.branch(2, true);
        CHECK.same("share(2) 1 of 1", x.share(2), 0x3F800000);
        testManyShares();
    }

    /** Parts of every greatness: what the library tells of the same division is due. */
    private static void testManyShares() {
        Random random = new Random(3);
        for (int run = 0; run < 60; run++) {
            Run x = new Run();
            int some = random.nextInt(100);
            int taken = 0;
            for (int all = 1; all <= 250; all++) {
                boolean way = random.nextInt(100) < some;
                taken += way ? 1 : 0;
                x.branch(run % 26, way);
                sameShare(x, run % 26, taken, all);
            }
        }
        for (int takenOnce = 0; takenOnce <= 33; takenOnce++) {
            testLargeShares(random, takenOnce);
        }
        Run y = Run.with("((a-)9(a-)9(a-)9(a-)6)9");
        y.branch(0, true);
        for (int k = 1; k <= 440; k++) {
            y.play();
            if (k % 10 == 0) {
                sameShare(y, 0, 1, 1 + 297 * k);
            }
        }
    }

    /** Each time 297 branches by the text, and one more, so that the part becomes another one. */
    private static void testLargeShares(Random random, int takenOnce) {
        Run x = Run.with("(" + "d+".repeat(takenOnce) + "d-".repeat(33 - takenOnce) + ")9");
        int taken = 0;
        for (int k = 1; k <= 140; k++) {
            x.play();
            boolean way = random.nextBoolean();
            x.branch(3, way);
            taken += 9 * takenOnce + (way ? 1 : 0);
            sameShare(x, 3, taken, 298 * k);
        }
    }

    private static void sameShare(Run x, int p, int taken, int all) {
        CHECK.same("share " + taken + " of " + all, x.share(p), Float.floatToIntBits((float) taken / (float) all));
    }

    private static void testRefusals() {
        Run x = someBranches();
        String before = x.picture();
        for (int what : new int[] {-1, 10, Integer.MIN_VALUE, Integer.MAX_VALUE}) {
            CHECK.refuses(Check.ARGUMENT, "about(" + what + ")", () -> x.about(what));
        }
        for (int what : new int[] {-1, 5, Integer.MIN_VALUE, Integer.MAX_VALUE}) {
            CHECK.refuses(Check.ARGUMENT, "desk(0, " + what + ")", () -> x.desk(0, what));
            CHECK.refuses(Check.ARGUMENT, "place(0, " + what + ")", () -> x.place(0, what));
            CHECK.refuses(Check.INDEX, "desk(2, " + what + ")", () -> x.desk(2, what));
            CHECK.refuses(Check.INDEX, "place(26, " + what + ")", () -> x.place(26, what));
        }
        for (int what : new int[] {-1, 4, Integer.MIN_VALUE, Integer.MAX_VALUE}) {
            CHECK.refuses(Check.ARGUMENT, "note(0, 0, " + what + ")", () -> x.note(0, 0, what));
            CHECK.refuses(Check.INDEX, "note(2, 0, " + what + ")", () -> x.note(2, 0, what));
            CHECK.refuses(Check.INDEX, "note(0, 16, " + what + ")", () -> x.note(0, 16, what));
        }
        for (int d : NO_DESK) {
            CHECK.refuses(Check.INDEX, "desk(" + d + ", 0)", () -> x.desk(d, 0));
            CHECK.refuses(Check.INDEX, "note(" + d + ", 0, 0)", () -> x.note(d, 0, 0));
            CHECK.refuses(Check.INDEX, "path(" + d + ", 0)", () -> x.path(d, 0));
            CHECK.refuses(Check.INDEX, "noteOf(" + d + ", 0)", () -> x.noteOf(d, 0));
        }
        for (int p : NO_PLACE) {
            CHECK.refuses(Check.INDEX, "place(" + p + ", 0)", () -> x.place(p, 0));
            CHECK.refuses(Check.INDEX, "path(0, " + p + ")", () -> x.path(0, p));
            CHECK.refuses(Check.INDEX, "noteOf(0, " + p + ")", () -> x.noteOf(0, p));
            CHECK.refuses(Check.INDEX, "share(" + p + ")", () -> x.share(p));
            CHECK.refuses(Check.INDEX, "note(0, " + p + ", 0)", () -> x.note(0, p, 0));
        }
        CHECK.samePicture("refused calls", x, before);
    }
}
