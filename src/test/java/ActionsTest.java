/** Promises 13 to 19: actions and undo. */
public final class ActionsTest {
    private static final Check CHECK = new Check("ActionsTest");
    private static final int[] NO_DESK = {-1, 2, Integer.MIN_VALUE, Integer.MAX_VALUE};

    public static void main(String[] args) {
        testSetDesk();
        testSet();
        testForget();
        testStrengthen();
        testBranch();
        testChooser();
        testStrengthLimits();
        testClashes();
        testOwnPaths();
        testPlay();
        testUndo();
        testUndoOfEachAction();
        testRefusals();
        CHECK.end();
    }

    /** An object in which everything that can be counted has been counted. */
    private static Run used() {
        Run x = Run.with("(a+b-(c+a-)2q+)3");
        x.strengthen(0, 5, 3);
        x.play();
        return x;
    }

    private static void testSetDesk() {
        int[] most = {4, 6, 1};
        for (int d = 0; d < 2; d++) {
            for (int what = 0; what < 3; what++) {
                int before = new Run().desk(d, what);
                for (int v = 0; v <= most[what]; v++) {
                    Run x = used();
                    String call = "setDesk(" + d + ", " + what + ", " + v + ")";
                    CHECK.same(call, x.setDesk(d, what, v), before);
                    CHECK.same("desk() behind " + call, x.desk(d, what), v);
                    CHECK.same(call + " again", x.setDesk(d, what, v), v);
                    Run fresh = new Run();
                    fresh.setDesk(d, what, v);
                    CHECK.samePicture(call + " makes all as at first", x, fresh.picture());
                }
                int behind = most[what] + 1;
                refusesSetDesk(d, what, behind);
                refusesSetDesk(d, what, -1);
                refusesSetDesk(d, what, Integer.MAX_VALUE);
                refusesSetDesk(d, what, Integer.MIN_VALUE);
            }
            refusesSetDesk(d, 3, 0);
            refusesSetDesk(d, -1, 0);
            refusesSetDesk(d, Integer.MAX_VALUE, 0);
            refusesSetDesk(d, Integer.MIN_VALUE, 0);
        }
        Run x = new Run();
        x.setDesk(0, 1, 5);
        x.setDesk(1, 0, 2);
        x.set(0, 6);
        x.setDesk(0, 2, 1);
        CHECK.same("the other settings stay: length", x.desk(0, 1), 5);
        CHECK.same("the other settings stay: mixing", x.desk(1, 0), 2);
        CHECK.same("the other settings stay: size", x.about(7), 6);
    }

    private static void refusesSetDesk(int d, int what, int v) {
        Run x = used();
        String before = x.picture();
        CHECK.refuses(Check.ARGUMENT, "setDesk(" + d + ", " + what + ", " + v + ")", () -> x.setDesk(d, what, v));
        CHECK.samePicture("a refused setDesk", x, before);
        CHECK.same("a refused setDesk is not remembered", x.undo(), 1);
    }

    private static void testSet() {
        int[] least = {2, 1, 0};
        int[] most = {6, 4, 9};
        int[] first = {4, 2, 2};
        for (int what = 0; what < 3; what++) {
            for (int v = least[what]; v <= most[what]; v++) {
                Run x = used();
                String call = "set(" + what + ", " + v + ")";
                CHECK.same(call, x.set(what, v), first[what]);
                CHECK.same("about() behind " + call, x.about(7 + what), v);
                CHECK.same(call + " again", x.set(what, v), v);
                Run fresh = new Run();
                fresh.set(what, v);
                CHECK.samePicture(call + " makes all as at first", x, fresh.picture());
            }
            refusesSet(what, least[what] - 1);
            refusesSet(what, most[what] + 1);
            refusesSet(what, Integer.MAX_VALUE);
            refusesSet(what, Integer.MIN_VALUE);
        }
        for (int what : new int[] {-1, 3, Integer.MIN_VALUE, Integer.MAX_VALUE}) {
            refusesSet(what, 2);
        }
        Run x = new Run();
        x.setDesk(0, 1, 5);
        x.set(0, 5);
        x.set(1, 4);
        x.set(2, 7);
        CHECK.same("the other settings stay: length", x.desk(0, 1), 5);
        CHECK.same("the other settings stay: size", x.about(7), 5);
        CHECK.same("the other settings stay: middle", x.about(8), 4);
        CHECK.same("the first strength with the middle 4", x.note(0, 31, 0), 3);
    }

    private static void refusesSet(int what, int v) {
        Run x = used();
        String before = x.picture();
        CHECK.refuses(Check.ARGUMENT, "set(" + what + ", " + v + ")", () -> x.set(what, v));
        CHECK.samePicture("a refused set", x, before);
        CHECK.same("a refused set is not remembered", x.undo(), 1);
    }

    private static void testForget() {
        Run x = used();
        int points = x.about(2);
        CHECK.same("forget()", x.forget(), points);
        CHECK.samePicture("forget()", x, new Run().picture());
        CHECK.same("forget() of nothing", x.forget(), 0);
        x.branch(0, true);
        x.branch(0, true);
        CHECK.same("forget() of points below 0", x.forget(), 1 - 2);
        x.setDesk(1, 2, 1);
        x.set(1, 3);
        Run fresh = new Run();
        fresh.setDesk(1, 2, 1);
        fresh.set(1, 3);
        x.branch(3, true);
        x.branch(4, false);
        x.branch(5, false);
        CHECK.same("right guesses one behind the other", x.about(5), 2);
        x.forget();
        CHECK.samePicture("forget() lets the settings stay", x, fresh.picture());
    }

    private static void testStrengthen() {
        for (int middle = 1; middle <= 4; middle++) {
            Run x = new Run();
            x.set(1, middle);
            int behind = 2 * middle;
            CHECK.same("strengthen(1, 15, most)", x.strengthen(1, 15, behind - 1), middle - 1);
            CHECK.same("strengthen(1, 15, 0)", x.strengthen(1, 15, 0), behind - 1);
            CHECK.same("strengthen(1, 15, 0) again", x.strengthen(1, 15, 0), 0);
            CHECK.same("undo()", x.undo(), 3);
            CHECK.refuses(Check.ARGUMENT, "strengthen(0, 0, 2 * middle)", () -> x.strengthen(0, 0, behind));
            CHECK.refuses(Check.ARGUMENT, "strengthen(0, 0, -1)", () -> x.strengthen(0, 0, -1));
            CHECK.refuses(Check.ARGUMENT, "strengthen(0, 0, MAX)", () -> x.strengthen(0, 0, Integer.MAX_VALUE));
            CHECK.refuses(Check.INDEX, "strengthen(0, 16, 2 * middle)", () -> x.strengthen(0, 16, behind));
            CHECK.refuses(Check.INDEX, "strengthen(0, -1, 0)", () -> x.strengthen(0, -1, 0));
            CHECK.refuses(Check.INDEX, "strengthen(2, 0, -1)", () -> x.strengthen(2, 0, -1));
            CHECK.same("refused calls are not remembered", x.undo(), 2);
        }
        Run x = used();
        x.strengthen(0, 9, 3);
        CHECK.same("a strengthened note is not used", x.note(0, 9, 2), 0);
        CHECK.same("a strengthened note has no last place", x.note(0, 9, 1), Check.NONE);
        CHECK.same("the guess of 9", x.place(9, 4), 1);
        CHECK.same("the guess of 25", x.place(25, 4), 1);
        CHECK.same("the guess of 8", x.place(8, 4), 0);
        CHECK.same("the other desk stays", x.note(1, 9, 0), 1);
    }

    private static void testBranch() {
        Run x = new Run();
        CHECK.same("branch(4, false)", x.branch(4, false), true);
        CHECK.same("branch(4, true)", x.branch(4, true), false);
        CHECK.same("branch(4, true)", x.branch(4, true), false);
        CHECK.same("branch(4, true)", x.branch(4, true), true);
        CHECK.same("points", x.about(2), 2 - 4);
        CHECK.same("strength", x.note(0, 4, 0), 3);
        for (int p : new int[] {-1, 26, Integer.MIN_VALUE, Integer.MAX_VALUE}) {
            CHECK.refuses(Check.INDEX, "branch(" + p + ", true)", () -> x.branch(p, true));
        }
        CHECK.same("refused calls are not remembered", x.undo(), 3);
        CHECK.same("branch(25, false)", x.branch(25, false), true);
    }

    /** The desk 0 has one note for a place, the desk 1 here too: the strengths are set so that they differ. */
    private static void testChooser() {
        Run x = new Run();
        x.setDesk(1, 0, 0);
        int[] toTheLast = {2, 3, 3};
        for (int due : toTheLast) {
            x.strengthen(0, 7, 0);
            x.strengthen(1, 7, 3);
            boolean lastIsChosen = x.place(7, 3) >= 2;
            CHECK.same("branch(7, true)", x.branch(7, true), lastIsChosen);
            CHECK.same("the chooser", x.place(7, 3), due);
        }
        int[] toTheFirst = {2, 1, 0, 0};
        for (int due : toTheFirst) {
            x.strengthen(0, 7, 0);
            x.strengthen(1, 7, 3);
            CHECK.same("the guess", x.place(7, 4), x.place(7, 3) >= 2 ? 1 : 0);
            x.branch(7, false);
            CHECK.same("the chooser", x.place(7, 3), due);
        }
        x.strengthen(0, 7, 0);
        x.strengthen(1, 7, 0);
        x.branch(7, true);
        CHECK.same("the chooser when both are wrong", x.place(7, 3), 0);
        x.strengthen(0, 7, 3);
        x.strengthen(1, 7, 3);
        x.branch(7, true);
        CHECK.same("the chooser when both are right", x.place(7, 3), 0);
        CHECK.same("the chooser of another place", x.place(8, 3), 1);
    }

    private static void testStrengthLimits() {
        for (int middle = 1; middle <= 4; middle++) {
            Run x = new Run();
            x.set(1, middle);
            int strength = middle - 1;
            for (int k = 0; k < 10; k++) {
                x.branch(0, true);
                strength = Math.min(strength + 1, 2 * middle - 1);
                CHECK.same("the strength that becomes greater", x.note(0, 0, 0), strength);
                CHECK.same("the guess", x.place(0, 4), strength >= middle ? 1 : 0);
            }
            for (int k = 0; k < 10; k++) {
                x.branch(0, false);
                strength = Math.max(strength - 1, 0);
                CHECK.same("the strength that becomes smaller", x.note(0, 0, 0), strength);
            }
        }
    }

    private static void testClashes() {
        Run x = new Run();
        x.setDesk(1, 0, 1);
        x.setDesk(1, 1, 0);
        x.branch(3, true);
        x.branch(3, true);
        CHECK.same("no clash with itself: desk 0", x.about(3), 0);
        CHECK.same("no clash with itself: desk 1", x.about(4), 0);
        x.branch(4, true);
        CHECK.same("another note of the desk 0", x.about(3), 0);
        CHECK.same("one note of the desk 1 for all", x.about(4), 1);
        x.branch(19, true);
        CHECK.same("the note 3 of the desk 0", x.about(3), 1);
        CHECK.same("the note 0 of the desk 1", x.about(4), 2);
        CHECK.same("its last place", x.note(1, 0, 1), 19);
        x.strengthen(1, 0, 0);
        x.branch(19, false);
        CHECK.same("the last place stays with strengthen()", x.about(4), 2);
    }

    private static void testOwnPaths() {
        Run x = new Run();
        x.setDesk(1, 2, 1);
        x.branch(1, true);
        x.branch(2, true);
        x.branch(1, false);
        CHECK.same("the path of 1", x.path(1, 1), 2);
        CHECK.same("the path of 2", x.path(1, 2), 1);
        CHECK.same("the path of 3", x.path(1, 3), 0);
        CHECK.same("the note of 1: used with the path of before", x.note(1, 1 ^ 1, 1), 1);
        CHECK.same("how often", x.note(1, 1, 2), 1);
    }

    private static void testPlay() {
        Run x = Run.with("(a+b-)3z+");
        Run y = new Run();
        int right = 0;
        for (int k = 0; k < 3; k++) {
            right += y.branch(0, true) ? 1 : 0;
            right += y.branch(1, false) ? 1 : 0;
        }
        right += y.branch(25, true) ? 1 : 0;
        CHECK.same("play()", x.play(), right);
        CHECK.samePicture("play() and the branches of it", x, y.picture());
        CHECK.same("the text stays", x.branches(), 7);
        int again = x.play();
        CHECK.same("play() again counts the right guesses of its own", again, x.about(1) - right);
        x.undo();
        CHECK.same("play() is one action", x.undo(), 0);
        CHECK.samePicture("play() taken back", x, new Run().picture());

        Run none = new Run();
        CHECK.same("play() of nothing", none.play(), 0);
        CHECK.same("it is an action", none.undo(), 0);

        Run most = Run.with("((a+)5(b-)5)6(c+)8(((a+)4)7d-d-)8");
        CHECK.same("branches()", most.branches(), 60 + 8 + 240);
        CHECK.refuses(Check.STATE, "play() of 308", most::play);
        CHECK.refuses(Check.STATE, "it is no action", most::undo);
        CHECK.same("wouldBring() of 308", most.wouldBring(), Check.NONE);

        limit("((a+)5(b-)5)6(((a+)4)7d-d-)8", 300, true);
        limit("(((z+y-x+)5)5)4", 300, true);
        limit("(((z+y-x+)2)3(q+)7)9a+b+", 227, true);
        limit("((a+)5(b-)5)6(((a+)4)7d-d-)8z+", 301, false);
        limit("z+((a+)5(b-)5)6(((a+)4)7d-d-)8", 301, false);
        limit("((a+)5(b-)5)6(((a+)4)7d-d-)8(z+)9", 309, false);
        limit("((((a+b+)9)9)9)9", 13122, false);
        for (String text : new String[] {"a", "(a+", "a+)", "a+ "}) {
            Run wrong = Run.with(text);
            CHECK.refuses(Check.STATE, "play() of " + text, wrong::play);
            CHECK.samePicture("a refused play()", wrong, new Run().picture());
        }
    }

    private static void limit(String text, int branches, boolean playable) {
        Run x = Run.with(text);
        CHECK.same("branches() of " + text, x.branches(), branches);
        if (playable) {
            x.play();
            CHECK.same("branches gone", x.about(0), branches);
            x.undo();
            playOneByOne(x, text);
        } else {
            CHECK.refuses(Check.STATE, "play() of " + text, x::play);
            CHECK.same("branches gone", x.about(0), 0);
        }
    }

    /** Compares play() with the branches of a text without parentheses that has the same branches. */
    private static void playOneByOne(Run x, String text) {
        String flat = text;
        while (flat.indexOf(')') >= 0) {
            int end = flat.indexOf(')');
            int start = flat.lastIndexOf('(', end);
            String items = flat.substring(start + 1, end).repeat(flat.charAt(end + 1) - '0');
            flat = flat.substring(0, start) + items + flat.substring(end + 2);
        }
        Run y = new Run();
        for (int k = 0; k < flat.length(); k += 2) {
            y.branch(flat.charAt(k) - 'a', flat.charAt(k + 1) == '+');
        }
        x.play();
        CHECK.samePicture("play() of " + text, x, y.picture());
    }

    private static void testUndo() {
        Run x = new Run();
        CHECK.refuses(Check.STATE, "undo() of nothing", x::undo);
        String[] pictures = new String[31];
        for (int k = 0; k <= 30; k++) {
            pictures[k] = x.picture();
            x.branch(k % 5, k % 3 == 0);
        }
        for (int k = 13; k >= 0; k--) {
            CHECK.same("undo()", x.undo(), k);
            CHECK.samePicture("undo()", x, pictures[17 + k]);
        }
        CHECK.refuses(Check.STATE, "the 15th undo()", x::undo);
        CHECK.samePicture("a refused undo()", x, pictures[17]);
        x.branch(1, true);
        x.branch(1, true);
        CHECK.same("undo() is no action", x.undo(), 1);
        CHECK.same("undo() is no action", x.undo(), 0);
        CHECK.samePicture("undo()", x, pictures[17]);
    }

    private static void testUndoOfEachAction() {
        Run x = used();
        String[] pictures = new String[8];
        pictures[0] = x.picture();
        x.branch(3, true);
        pictures[1] = x.picture();
        x.strengthen(1, 3, 3);
        pictures[2] = x.picture();
        x.play();
        pictures[3] = x.picture();
        x.forget();
        pictures[4] = x.picture();
        x.play();
        pictures[5] = x.picture();
        x.set(0, 6);
        x.branch(25, true);
        pictures[6] = x.picture();
        x.setDesk(1, 2, 1);
        pictures[7] = x.picture();
        x.set(2, 2);
        int[] before = {7, 6, -1, 5, 4, 3, 2, 1, 0};
        for (int k = 0; k < before.length; k++) {
            CHECK.same("undo()", x.undo(), 10 - k);
            if (before[k] >= 0) {
                CHECK.samePicture("undo() to " + before[k], x, pictures[before[k]]);
            }
        }
    }

    private static void testRefusals() {
        Run x = used();
        String before = x.picture();
        for (int d : NO_DESK) {
            CHECK.refuses(Check.INDEX, "setDesk(" + d + ", 0, 0)", () -> x.setDesk(d, 0, 0));
            CHECK.refuses(Check.INDEX, "setDesk(" + d + ", 9, 99)", () -> x.setDesk(d, 9, 99));
            CHECK.refuses(Check.INDEX, "strengthen(" + d + ", 0, 0)", () -> x.strengthen(d, 0, 0));
        }
        CHECK.samePicture("refused calls", x, before);
        CHECK.same("refused calls are not remembered", x.undo(), 1);
    }
}
