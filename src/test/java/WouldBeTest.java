/** Promises 20 to 25: what would be. */
public final class WouldBeTest {
    private static final Check CHECK = new Check("WouldBeTest");
    private static final int[] NO_DESK = {-1, 2, Integer.MIN_VALUE, Integer.MAX_VALUE};
    private static final int[] NO_PLACE = {-1, 26, Integer.MIN_VALUE, Integer.MAX_VALUE};

    public static void main(String[] args) {
        testWouldBring();
        testBestMixing();
        testBestLength();
        testBestAmongAll();
        testSharing();
        testHolds();
        testWorst();
        testNothingChanges();
        testRefusals();
        CHECK.end();
    }

    private static void testWouldBring() {
        CHECK.same("wouldBring() of nothing", new Run().wouldBring(), 0);
        Run x = Run.with("a+a+a+a-");
        CHECK.same("wouldBring(): wrong, right, right, wrong", x.wouldBring(), -2);
        x.play();
        CHECK.same("points", x.about(2), -2);
        CHECK.same("wouldBring() now: all but the last right", x.wouldBring(), 1);
        x.undo();
        x.set(2, 9);
        CHECK.same("wouldBring() with the penalty 9", x.wouldBring(), 2 - 18);
        x.append('a');
        CHECK.same("wouldBring() of no trace", x.wouldBring(), Check.NONE);
        CHECK.same("wouldBring() of 300", Run.with("((a-)6)5((a-)9)5((a-)9(a-)9(a-)7)9").wouldBring(), 300);
        CHECK.same("wouldBring() of 301", Run.with("((a-)6)5((a-)9)5((a-)9(a-)9(a-)7)9z-").wouldBring(),
                Check.NONE);
    }

    private static void testBestMixing() {
        CHECK.same("bestMixing(0) of nothing", new Run().bestMixing(0), 0);
        CHECK.same("bestMixing(1) of nothing", new Run().bestMixing(1), 0);
        // Two places with the same way each: their own notes do it best, a path alone (here of 4) mixes them up.
        CHECK.same("bestMixing(0) of places", Run.with("(a+a+b-b-a+b-)9").bestMixing(0), 0);
        // One place whose way changes: only a path can tell.
        Run x = Run.with("(a+a-)9(a+a-)9");
        CHECK.same("bestMixing(1) of ways in turn", x.bestMixing(1), 1);
        CHECK.same("bestMixing(0): without a path all but 1 are as good", x.bestMixing(0), 0);
        x.setDesk(0, 1, 4);
        CHECK.same("bestMixing(0) with paths", x.bestMixing(0), 1);
        x.setDesk(0, 0, 4);
        CHECK.same("bestMixing(0), whatever it is now", x.bestMixing(0), 1);
        Run y = Run.with("((a+a-)9)9");
        CHECK.same("bestMixing(0) of 162", y.bestMixing(0), 0);
        y.append('a');
        CHECK.same("bestMixing(0) of no trace", y.bestMixing(0), Check.NONE);
        CHECK.same("bestMixing(1) of no trace", y.bestMixing(1), Check.NONE);
        Run z = Run.with("(((a+)9)9)9");
        CHECK.same("bestMixing(0) of 729", z.bestMixing(0), Check.NONE);
        CHECK.same("bestMixing(1) of 729", z.bestMixing(1), Check.NONE);
    }

    private static void testBestLength() {
        CHECK.same("bestLength(0) of nothing", new Run().bestLength(0), 0);
        Run x = Run.with("(a+a-)9(a+a-)9");
        CHECK.same("bestLength(1): the last way is enough", x.bestLength(1), 1);
        CHECK.same("bestLength(0): mixing 0 has no paths", x.bestLength(0), 0);
        x.setDesk(0, 0, 1);
        CHECK.same("bestLength(0) of paths", x.bestLength(0), 1);
        Run y = Run.with("(a+a+a+a-)9(a+a+a+a-)9");
        y.setDesk(1, 0, 1);
        CHECK.same("bestLength(1): three ways are needed", y.bestLength(1), 3);
        y.append('1');
        CHECK.same("bestLength(1) of no trace", y.bestLength(1), Check.NONE);
        CHECK.same("bestLength(0) of 729", Run.with("(((a+)9)9)9").bestLength(0), Check.NONE);
    }

    /** What comes out if every value is set and played, with all sorts of settings. */
    private static void testBestAmongAll() {
        String[] texts = {"(a+b-b+)7(c-a+)8", "((a+a-b+)3c-)9q+", "(a+q-a-q+)9(z+j-)6", "a+", "((a-b+)2(c+d-e+)3)9f+"};
        int[][] settings = {{4, 2, 2}, {2, 1, 9}, {6, 4, 0}, {3, 3, 5}};
        for (String text : texts) {
            for (int[] s : settings) {
                for (int own = 0; own < 2; own++) {
                    Run x = Run.with(text);
                    for (int what = 0; what < 3; what++) {
                        x.set(what, s[what]);
                    }
                    x.setDesk(1, 2, own);
                    x.setDesk(0, 1, 3);
                    x.strengthen(0, 1, 1);
                    x.play();
                    x.play();
                    compareBest(x, text);
                }
            }
        }
    }

    private static void compareBest(Run x, String text) {
        for (int d = 0; d < 2; d++) {
            CHECK.same("bestMixing(" + d + ") of " + text, x.bestMixing(d), tried(x, d, 0, 4));
            CHECK.same("bestLength(" + d + ") of " + text, x.bestLength(d), tried(x, d, 1, 6));
        }
    }

    private static int tried(Run x, int d, int what, int most) {
        int best = -1;
        int points = Integer.MIN_VALUE;
        for (int v = 0; v <= most; v++) {
            x.setDesk(d, what, v);
            x.play();
            if (x.about(2) > points) {
                points = x.about(2);
                best = v;
            }
            x.undo();
            x.undo();
        }
        return best;
    }

    private static void testSharing() {
        Run x = new Run();
        CHECK.same("sharing(0, 0)", x.sharing(0, 0), 1 << 16);
        CHECK.same("sharing(0, 16)", x.sharing(0, 16), 1);
        CHECK.same("sharing(0, 15)", x.sharing(0, 15), 0);
        CHECK.same("sharing(1, 9)", x.sharing(1, 9), 1 << 25);
        x.setDesk(0, 0, 1);
        CHECK.same("sharing(0, 3): all others", x.sharing(0, 3), (1 << 26) - 1 - (1 << 3));
        CHECK.same("sharing(0, 25): all others", x.sharing(0, 25), (1 << 25) - 1);
        x.setDesk(0, 2, 1);
        x.setDesk(0, 1, 3);
        x.branch(4, true);
        x.branch(9, true);
        CHECK.same("sharing(0, 4)", x.sharing(0, 4), 1 << 9);
        CHECK.same("sharing(0, 9)", x.sharing(0, 9), 1 << 4);
        CHECK.same("sharing(0, 0)", x.sharing(0, 0), (1 << 26) - 1 - 1 - (1 << 4) - (1 << 9));
        x.branch(9, true);
        CHECK.same("sharing(0, 4) now", x.sharing(0, 4), 0);
        x.set(0, 6);
        x.setDesk(0, 0, 0);
        CHECK.same("sharing(0, 0) of 64 notes", x.sharing(0, 0), 0);
        x.set(0, 2);
        CHECK.same("sharing(0, 1) of 4 notes", x.sharing(0, 1), 0b10001000100010001000100000);
    }

    private static void testHolds() {
        Run x = new Run();
        CHECK.same("holds(0) of the strength 1", x.holds(0), 1);
        x.strengthen(0, 0, 0);
        CHECK.same("holds(0) of the strength 0", x.holds(0), 2);
        x.strengthen(0, 0, 2);
        // The desk 1 says not taken and is right: the chooser goes to the desk 1 at once.
        CHECK.same("holds(0) of the strength 2", x.holds(0), 1);
        x.strengthen(0, 0, 3);
        CHECK.same("holds(0) of the strength 3", x.holds(0), 1);
        x.setDesk(1, 0, 0);
        x.set(1, 4);
        x.strengthen(0, 3, 0);
        x.strengthen(1, 3, 0);
        CHECK.same("holds(3) of two weak notes", x.holds(3), 4);
        x.strengthen(1, 3, 2);
        CHECK.same("holds(3) with a stronger one", x.holds(3), 3);
        // The chooser is at 2 behind the third branch; the desk 1 says taken then.
        x.strengthen(1, 3, 0);
        x.strengthen(0, 3, 7);
        CHECK.same("holds(3) of taken", x.holds(3), 1);
        // A place with 3 and a desk 1 whose paths are so long that each branch has a new note for long.
        Run y = new Run();
        y.set(0, 6);
        y.set(1, 4);
        y.setDesk(1, 1, 6);
        y.setDesk(1, 0, 1);
        for (int i = 0; i < 64; i++) {
            y.strengthen(1, i, 0);
        }
        lastIsChosen(y);
        CHECK.same("holds(5)", y.holds(5), byBranches(y, 5));
        CHECK.same("holds(6)", y.holds(6), byBranches(y, 6));
        testHoldsOfMany();
    }

    /** Makes the chooser of the place 5 be 3. */
    private static void lastIsChosen(Run x) {
        for (int k = 0; k < 3; k++) {
            x.strengthen(0, 5, 7);
            x.branch(5, false);
        }
        CHECK.same("the chooser", x.place(5, 3), 3);
    }

    private static int byBranches(Run x, int p) {
        int guess = x.place(p, 4);
        x.save(0);
        int count = 0;
        while (count < 99 && x.place(p, 4) == guess) {
            x.branch(p, guess == 0);
            count++;
        }
        x.restore(0);
        return count;
    }

    /** No guess holds for ever: a path that always goes the same way comes to rest, and so do its notes. */
    private static void testHoldsOfMany() {
        int longest = 0;
        for (int run = 0; run < 500; run++) {
            Run x = new Run();
            x.set(0, 2 + run % 5);
            x.set(1, 1 + run % 4);
            x.setDesk(run % 2, 0, run / 4 % 5);
            x.setDesk(run % 2, 1, run / 3 % 7);
            x.setDesk(run / 2 % 2, 2, run / 7 % 2);
            int r = run;
            for (int k = 0; k < 60; k++) {
                r = (r * 1103515245 + 12345) & 0x7FFFFFFF;
                x.branch(r / 65536 % 4, r / 4096 % 3 == 0);
            }
            for (int p = 0; p < 5; p++) {
                int holds = x.holds(p);
                CHECK.same("holds(" + p + ") in run " + run, holds, byBranches(x, p));
                longest = Math.max(longest, holds);
            }
        }
        CHECK.same("some guess holds for 4 branches or more", longest >= 4, true);
    }

    private static void testWorst() {
        Run x = new Run();
        CHECK.same("worst() of nothing", x.worst(), Check.NONE);
        x.branch(3, false);
        CHECK.same("worst() without a wrong guess", x.worst(), Check.NONE);
        x.branch(25, true);
        CHECK.same("worst()", x.worst(), 25);
        x.branch(7, true);
        CHECK.same("worst() of two", x.worst(), 7);
        x.branch(25, false);
        x.branch(25, true);
        CHECK.same("worst() of 25 again", x.worst(), 25);
        x.forget();
        CHECK.same("worst() behind forget()", x.worst(), Check.NONE);
        x.branch(0, true);
        CHECK.same("worst() at 0", x.worst(), 0);
    }

    private static void testNothingChanges() {
        Run x = Run.with("(a+b-q+)5");
        x.branch(3, true);
        x.play();
        String before = x.picture();
        x.wouldBring();
        CHECK.samePicture("wouldBring()", x, before);
        x.bestMixing(0);
        x.bestMixing(1);
        CHECK.samePicture("bestMixing()", x, before);
        x.bestLength(0);
        x.bestLength(1);
        CHECK.samePicture("bestLength()", x, before);
        x.sharing(0, 0);
        x.holds(0);
        x.worst();
        CHECK.samePicture("sharing(), holds() and worst()", x, before);
        CHECK.same("the text stays", x.branches(), 15);
        CHECK.same("none of them is an action", x.undo(), 1);
    }

    private static void testRefusals() {
        Run x = Run.with("a");
        for (int d : NO_DESK) {
            CHECK.refuses(Check.INDEX, "bestMixing(" + d + ")", () -> x.bestMixing(d));
            CHECK.refuses(Check.INDEX, "bestLength(" + d + ")", () -> x.bestLength(d));
            CHECK.refuses(Check.INDEX, "sharing(" + d + ", 0)", () -> x.sharing(d, 0));
        }
        for (int p : NO_PLACE) {
            CHECK.refuses(Check.INDEX, "sharing(0, " + p + ")", () -> x.sharing(0, p));
            CHECK.refuses(Check.INDEX, "holds(" + p + ")", () -> x.holds(p));
        }
        CHECK.samePicture("refused calls", x, new Run().picture());
    }
}
