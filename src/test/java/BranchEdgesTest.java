/** The edges that the document names in "Terms" for what happens when a branch goes a way. */
public final class BranchEdgesTest {
    private static final Check CHECK = new Check("BranchEdgesTest");

    public static void main(String[] args) {
        CHECK.sentence("A branch", "A right guess brings 1 point, a wrong one costs the penalty.",
                BranchEdgesTest::points);
        CHECK.sentence("A branch", "(Points may be below 0.)", BranchEdgesTest::pointsBelow0);
        CHECK.sentence("A branch", "If what the two desks say differs, the chooser becomes greater by 1, at most 3,"
                + " if the desk 1 is right", () -> chooserMoves(true, 2, 3, 3, 3));
        CHECK.sentence("A branch", "and smaller by 1, at least 0, if the desk 0 is",
                () -> chooserMoves(false, 0, 0, 0, 0));
        CHECK.sentence("A branch", "If what the two desks say differs", BranchEdgesTest::chooserStays);
        CHECK.sentence("A branch", "If it was used before, and last by another place, that is a clash.",
                BranchEdgesTest::clashes);
        CHECK.sentence("A branch", "It is right or not by itself.", BranchEdgesTest::rightByItself);
        CHECK.sentence("A branch", "Its strength becomes greater by 1, at most 2 * middle - 1",
                BranchEdgesTest::greaterStrengths);
        CHECK.sentence("A branch", "otherwise smaller by 1, at least 0", BranchEdgesTest::smallerStrengths);
        CHECK.sentence("A branch", "The last place of the note is this one then.", BranchEdgesTest::lastPlaces);
        CHECK.sentence("A branch", "The path of each desk for the place changes.", BranchEdgesTest::pathsChange);
        CHECK.sentence("A branch", "Then this happens, in this order", BranchEdgesTest::order);
        CHECK.end();
    }

    private static void points() {
        for (int penalty : new int[] {0, 1, 2, 8, 9}) {
            Run x = new Run();
            x.set(2, penalty);
            CHECK.same("a right guess", x.branch(7, false), true);
            CHECK.same("points behind it", x.about(2), 1);
            CHECK.same("a wrong guess", x.branch(7, true), false);
            CHECK.same("points behind it, penalty " + penalty, x.about(2), 1 - penalty);
        }
    }

    private static void pointsBelow0() {
        Run x = new Run();
        x.set(2, 9);
        for (int p = 0; p < 26; p++) {
            x.set(2, 9);
            CHECK.same("a wrong guess at " + p, x.branch(p, true), false);
            CHECK.same("points", x.about(2), -9);
        }
        // No number of wrong guesses stops them.
        x.set(0, 6);
        x.setDesk(1, 0, 0);
        for (int p = 0; p < 26; p++) {
            CHECK.same("points", x.about(2), -9 * p);
            x.branch(p, true);
        }
        CHECK.same("forget()", x.forget(), -9 * 26);
    }

    /** Both desks have the note 7 for the place 7. */
    private static Run sameNotes() {
        Run x = new Run();
        x.setDesk(1, 0, 0);
        return x;
    }

    /** The desks say different ways, and the same desk is right again and again. */
    private static void chooserMoves(boolean is1AlwaysRight, int... due) {
        for (int said = 0; said <= 3; said += 3) {
            Run x = sameNotes();
            for (int chooser : due) {
                x.strengthen(0, 7, 3 - said);
                x.strengthen(1, 7, said);
                x.branch(7, (said == 3) == is1AlwaysRight);
                CHECK.same("the chooser", x.place(7, 3), chooser);
                CHECK.same("the chooser of another place", x.place(6, 3), 1);
            }
        }
        Run y = sameNotes();
        int[] there = {2, 3, 3, 2, 1, 0, 0, 1, 2, 3};
        boolean[] is1Right = {true, true, true, false, false, false, false, true, true, true};
        for (int k = 0; k < there.length; k++) {
            y.strengthen(0, 7, 0);
            y.strengthen(1, 7, 3);
            y.branch(7, is1Right[k]);
            CHECK.same("the chooser there and back", y.place(7, 3), there[k]);
        }
    }

    private static void chooserStays() {
        for (int moves = -1; moves <= 2; moves++) {
            for (int said = 0; said <= 3; said += 3) {
                for (boolean taken : new boolean[] {true, false}) {
                    Run x = sameNotes();
                    for (int k = 0; k < Math.abs(moves); k++) {
                        x.strengthen(0, 7, 0);
                        x.strengthen(1, 7, 3);
                        x.branch(7, moves > 0);
                    }
                    x.strengthen(0, 7, said);
                    x.strengthen(1, 7, said);
                    x.branch(7, taken);
                    CHECK.same("the chooser if both say the same", x.place(7, 3), 1 + moves);
                }
            }
        }
        Run x = sameNotes();
        x.strengthen(0, 7, 2);
        x.strengthen(1, 7, 3);
        x.branch(7, false);
        CHECK.same("the chooser if both say the same with different strengths", x.place(7, 3), 1);
    }

    private static void clashes() {
        Run x = sameNotes();
        x.strengthen(0, 3, 3);
        x.strengthen(1, 3, 3);
        clashesBehind("the first use", x, 3, 0);
        clashesBehind("the same place again", x, 3, 0);
        clashesBehind("another note", x, 4, 0);
        clashesBehind("the note 3 by the place 19", x, 19, 1);
        clashesBehind("by the place 19 again", x, 19, 1);
        clashesBehind("by the place 3 again: 19 was the last", x, 3, 2);
        clashesBehind("the note 0", x, 16, 2);
        clashesBehind("the note 0 by the place 0", x, 0, 3);
        x.strengthen(0, 0, 0);
        x.strengthen(1, 0, 0);
        clashesBehind("a strengthened note by the place 0", x, 0, 3);
        x.set(0, 5);
        for (int p = 0; p < 26; p++) {
            clashesBehind("with 32 notes each place has its own", x, p, 0);
        }
        Run y = new Run();
        y.setDesk(1, 1, 0);
        y.setDesk(1, 0, 1);
        y.branch(3, true);
        y.branch(4, true);
        CHECK.same("clashes of the desk 0", y.about(3), 0);
        CHECK.same("clashes of the desk 1", y.about(4), 1);
        y.setDesk(0, 0, 1);
        y.setDesk(1, 0, 0);
        y.branch(3, true);
        y.branch(4, true);
        CHECK.same("clashes of the desk 0", y.about(3), 1);
        CHECK.same("clashes of the desk 1", y.about(4), 0);
    }

    private static void clashesBehind(String what, Run x, int p, int due) {
        x.branch(p, true);
        CHECK.same(what + ": clashes of the desk 0", x.about(3), due);
        CHECK.same(what + ": clashes of the desk 1", x.about(4), due);
    }

    private static void rightByItself() {
        Run x = sameNotes();
        x.strengthen(0, 7, 0);
        x.strengthen(1, 7, 3);
        CHECK.same("the guess is wrong", x.branch(7, true), false);
        CHECK.same("the note of the desk 0 is wrong by itself", x.note(0, 7, 3), 0);
        CHECK.same("the note of the desk 1 is right by itself", x.note(1, 7, 3), 1);
        CHECK.same("the desk 0", x.desk(0, 3), 0);
        CHECK.same("the desk 1", x.desk(1, 3), 1);
        x.strengthen(0, 7, 1);
        x.strengthen(1, 7, 1);
        x.branch(7, true);
        CHECK.same("a note that says taken only afterwards: desk 0", x.note(0, 7, 3), 0);
        CHECK.same("a note that says taken only afterwards: desk 1", x.note(1, 7, 3), 1);
        x.branch(7, false);
        CHECK.same("a note that says not taken only afterwards: desk 0", x.note(0, 7, 3), 0);
        CHECK.same("a note that says not taken only afterwards: desk 1", x.note(1, 7, 3), 1);
        x.branch(7, false);
        CHECK.same("right by itself: desk 0", x.note(0, 7, 3), 1);
        CHECK.same("right by itself: desk 1", x.note(1, 7, 3), 2);
        CHECK.same("how often: desk 0", x.note(0, 7, 2), 4);
        CHECK.same("of all notes: desk 1", x.desk(1, 3), 2);
    }

    private static void greaterStrengths() {
        for (int middle = 1; middle <= 4; middle++) {
            Run x = sameNotes();
            x.set(1, middle);
            x.strengthen(0, 7, 0);
            x.strengthen(1, 7, 0);
            for (int k = 1; k <= 9; k++) {
                x.branch(7, true);
                CHECK.same(k + " taken: desk 0", x.note(0, 7, 0), Math.min(k, 2 * middle - 1));
                CHECK.same(k + " taken: desk 1", x.note(1, 7, 0), Math.min(k, 2 * middle - 1));
            }
        }
    }

    private static void smallerStrengths() {
        for (int middle = 1; middle <= 4; middle++) {
            Run x = sameNotes();
            x.set(1, middle);
            int most = 2 * middle - 1;
            x.strengthen(0, 7, most);
            x.strengthen(1, 7, most);
            for (int k = 1; k <= 9; k++) {
                x.branch(7, false);
                CHECK.same(k + " not taken: desk 0", x.note(0, 7, 0), Math.max(most - k, 0));
                CHECK.same(k + " not taken: desk 1", x.note(1, 7, 0), Math.max(most - k, 0));
            }
        }
    }

    private static void lastPlaces() {
        Run x = sameNotes();
        for (int d = 0; d < 2; d++) {
            CHECK.same("not used", x.note(d, 9, 1), Check.NONE);
        }
        for (int p : new int[] {9, 25, 25, 9}) {
            x.branch(p, true);
            for (int d = 0; d < 2; d++) {
                CHECK.same("the last place", x.note(d, 9, 1), p);
                CHECK.same("of another note", x.note(d, 8, 1), Check.NONE);
            }
        }
        x.branch(0, true);
        CHECK.same("the place 0 is a last place, too", x.note(0, 0, 1), 0);
    }

    private static void pathsChange() {
        Run x = new Run();
        for (int d = 0; d < 2; d++) {
            x.setDesk(d, 0, 1);
            x.setDesk(d, 1, 2 + d);
            x.setDesk(d, 2, d);
        }
        x.branch(7, true);
        for (int d = 0; d < 2; d++) {
            CHECK.same("the path of " + d, x.path(d, 7), 1);
            CHECK.same("the path of " + d + " for 8", x.path(d, 8), d == 0 ? 1 : 0);
            CHECK.same("the note that was used is that of before", x.note(d, 0, 2), 1);
            CHECK.same("the note of the path of now was not", x.note(d, 1, 2), 0);
        }
        x.branch(7, true);
        x.branch(7, false);
        CHECK.same("the path of 0", x.path(0, 7), 2);
        CHECK.same("the path of 1", x.path(1, 7), 6);
    }

    /** What each step sees is what the steps before it left. */
    private static void order() {
        // The guess is the one of the chooser before it moves; what both say is from before the strengths change.
        Run x = sameNotes();
        x.strengthen(0, 7, 1);
        x.strengthen(1, 7, 2);
        CHECK.same("the guess before the chooser moves", x.branch(7, true), false);
        CHECK.same("the chooser", x.place(7, 3), 2);
        CHECK.same("the strength of the desk 0", x.note(0, 7, 0), 2);
        CHECK.same("the strength of the desk 1", x.note(1, 7, 0), 3);
        x.strengthen(0, 7, 2);
        x.strengthen(1, 7, 1);
        CHECK.same("the guess before the strengths change", x.branch(7, true), false);
        CHECK.same("the chooser moves by what they said before", x.place(7, 3), 1);
        // A clash is told by the last place before this one.
        x.branch(23, true);
        CHECK.same("a clash", x.about(3), 1);
        x.branch(23, true);
        CHECK.same("no clash", x.about(3), 1);
    }
}
