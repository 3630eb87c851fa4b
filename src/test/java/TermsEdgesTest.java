/** The edges that the document names in "Terms": settings, notes and paths, choosers. */
public final class TermsEdgesTest {
    private static final Check CHECK = new Check("TermsEdgesTest");

    public static void main(String[] args) {
        settings();
        placesAndNotes();
        strengths();
        paths();
        numbersOfNotes();
        choosers();
        CHECK.end();
    }

    // ---- settings

    private static void settings() {
        CHECK.sentence("Terms", "There are two desks, 0 and 1.", TermsEdgesTest::twoDesks);
        CHECK.sentence("Terms", "the mixing (0 to 4; at first 0 for the desk 0, 3 for the desk 1)",
                () -> deskSetting(0, 4, 0, 3));
        CHECK.sentence("Terms", "the length of its paths (0 to 6; at first 0 for the desk 0, 4 for the desk 1)",
                () -> deskSetting(1, 6, 0, 4));
        CHECK.sentence("Terms", "whether its paths are common (0, at first) or own ones of each place (1)",
                () -> deskSetting(2, 1, 0, 0));
        CHECK.sentence("Terms", "the size (2 to 6, at first 4)", () -> commonSetting(0, 2, 6, 4));
        CHECK.sentence("Terms", "the middle (1 to 4, at first 2)", () -> commonSetting(1, 1, 4, 2));
        CHECK.sentence("Terms", "the penalty (0 to 9, at first 2)", () -> commonSetting(2, 0, 9, 2));
    }

    private static void twoDesks() {
        Run x = new Run();
        CHECK.same("desk(0, 0)", x.desk(0, 0), 0);
        CHECK.same("desk(1, 0)", x.desk(1, 0), 3);
        for (int d : Check.NOT_OF_TWO) {
            CHECK.refuses(Check.INDEX, "desk(" + d + ", 0)", () -> x.desk(d, 0));
        }
    }

    private static void deskSetting(int what, int most, int firstOf0, int firstOf1) {
        for (int d = 0; d < 2; d++) {
            int desk = d;
            Run x = new Run();
            CHECK.same("at first", x.desk(d, what), d == 0 ? firstOf0 : firstOf1);
            int before = x.desk(d, what);
            for (int v = 0; v <= most; v++) {
                CHECK.same("setDesk(" + d + ", " + what + ", " + v + ")", x.setDesk(d, what, v), before);
                CHECK.same("now", x.desk(d, what), v);
                before = v;
            }
            for (int v : new int[] {-1, most + 1, Integer.MIN_VALUE, Integer.MAX_VALUE}) {
                CHECK.refuses(Check.ARGUMENT, "setDesk(" + d + ", " + what + ", " + v + ")",
                        () -> x.setDesk(desk, what, v));
                CHECK.same("behind the refused call", x.desk(d, what), most);
            }
        }
    }

    private static void commonSetting(int what, int least, int most, int first) {
        Run x = new Run();
        int before = first;
        CHECK.same("at first", x.about(7 + what), first);
        for (int v = least; v <= most; v++) {
            CHECK.same("set(" + what + ", " + v + ")", x.set(what, v), before);
            CHECK.same("now", x.about(7 + what), v);
            before = v;
        }
        for (int v : new int[] {least - 1, most + 1, Integer.MIN_VALUE, Integer.MAX_VALUE}) {
            CHECK.refuses(Check.ARGUMENT, "set(" + what + ", " + v + ")", () -> x.set(what, v));
            CHECK.same("behind the refused call", x.about(7 + what), most);
        }
    }

    // ---- notes and paths

    private static void placesAndNotes() {
        CHECK.sentence("Terms", "There are 26 places, numbered from 0.", TermsEdgesTest::places);
        CHECK.sentence("Terms", "Each desk has 2^size notes, numbered from 0.", () -> {
            for (int size = 2; size <= 6; size++) {
                notesOfSize(size);
            }
        });
    }

    private static void places() {
        Run x = new Run();
        for (int p : new int[] {0, 25}) {
            CHECK.same("branch(" + p + ", false)", x.branch(p, false), true);
            CHECK.same("place(" + p + ", 0)", x.place(p, 0), 1);
        }
        for (int p : Check.NO_PLACE) {
            CHECK.refuses(Check.INDEX, "branch(" + p + ", false)", () -> x.branch(p, false));
            CHECK.refuses(Check.INDEX, "place(" + p + ", 0)", () -> x.place(p, 0));
        }
    }

    private static void notesOfSize(int size) {
        Run x = new Run();
        x.set(0, size);
        int last = (1 << size) - 1;
        for (int d = 0; d < 2; d++) {
            int desk = d;
            for (int i : new int[] {0, last}) {
                CHECK.same("strengthen(" + d + ", " + i + ", 3)", x.strengthen(d, i, 3), 1);
                CHECK.same("note(" + d + ", " + i + ", 0)", x.note(d, i, 0), 3);
            }
            for (int i : new int[] {-1, last + 1, Integer.MIN_VALUE, Integer.MAX_VALUE}) {
                CHECK.refuses(Check.INDEX, "strengthen(" + d + ", " + i + ", 3)", () -> x.strengthen(desk, i, 3));
                CHECK.refuses(Check.INDEX, "note(" + d + ", " + i + ", 0)", () -> x.note(desk, i, 0));
            }
        }
    }

    private static void strengths() {
        CHECK.sentence("Terms", "A note has a strength from 0 to 2 * middle - 1, at first middle - 1", () -> {
            for (int middle = 1; middle <= 4; middle++) {
                strengthsOfMiddle(middle);
            }
        });
        CHECK.sentence("Terms", "says that a branch is taken if its strength is at least the middle", () -> {
            for (int middle = 1; middle <= 4; middle++) {
                whatNotesSay(middle);
            }
        });
    }

    private static void strengthsOfMiddle(int middle) {
        Run x = new Run();
        x.set(1, middle);
        x.set(0, 6);
        for (int d = 0; d < 2; d++) {
            int desk = d;
            for (int i : new int[] {0, 15, 63}) {
                CHECK.same("at first, middle " + middle, x.note(d, i, 0), middle - 1);
            }
            CHECK.same("the greatest", x.strengthen(d, 63, 2 * middle - 1), middle - 1);
            CHECK.same("the smallest", x.strengthen(d, 63, 0), 2 * middle - 1);
            for (int v : new int[] {-1, 2 * middle, Integer.MIN_VALUE, Integer.MAX_VALUE}) {
                CHECK.refuses(Check.ARGUMENT, "strengthen to " + v + ", middle " + middle,
                        () -> x.strengthen(desk, 63, v));
            }
            CHECK.same("behind the refused calls", x.note(d, 63, 0), 0);
        }
    }

    private static void whatNotesSay(int middle) {
        Run x = new Run();
        x.set(1, middle);
        for (int v = 0; v < 2 * middle; v++) {
            x.strengthen(0, 7, v);
            CHECK.same("the strength " + v + ", middle " + middle, x.place(7, 4), v >= middle ? 1 : 0);
        }
        // The desk 1 says it too, to a chooser that believes it.
        Run y = believesDesk1(7);
        y.strengthen(1, 7, 1);
        CHECK.same("the strength 1 of the desk 1", y.place(7, 4), 0);
        y.strengthen(1, 7, 2);
        CHECK.same("the strength 2 of the desk 1", y.place(7, 4), 1);
    }

    /** Both desks have the note p for the place p, and its chooser is 2. */
    private static Run believesDesk1(int p) {
        Run x = new Run();
        x.setDesk(1, 0, 0);
        x.strengthen(1, p, 3);
        x.branch(p, true);
        CHECK.same("the chooser", x.place(p, 3), 2);
        return x;
    }

    private static void paths() {
        CHECK.sentence("Terms", "A path is a number from 0 to 2^length - 1, at first 0", () -> {
            for (int length = 0; length <= 6; length++) {
                pathsOfLength(length);
            }
        });
        CHECK.sentence("Terms", "(2 * (the path) + (1 if it was taken, otherwise 0)) as the remainder by 2^length",
                TermsEdgesTest::pathsWrapAround);
        CHECK.sentence("Terms", "of a desk with common paths there is one, otherwise one for each place",
                TermsEdgesTest::commonAndOwnPaths);
    }

    private static void pathsOfLength(int length) {
        int most = (1 << length) - 1;
        for (int d = 0; d < 2; d++) {
            for (int own = 0; own < 2; own++) {
                Run x = new Run();
                x.setDesk(d, 1, length);
                x.setDesk(d, 2, own);
                String at = " of the length " + length + ", own " + own;
                CHECK.same("the first path" + at, x.path(d, 25), 0);
                for (int k = 1; k <= 8; k++) {
                    x.branch(25, true);
                    CHECK.same(k + " taken: the path" + at, x.path(d, 25), Math.min((1 << k) - 1, most));
                }
                for (int k = 1; k <= 8; k++) {
                    x.branch(25, false);
                    CHECK.same(k + " not taken: the path" + at, x.path(d, 25), (most << k) & most);
                }
            }
        }
    }

    private static void pathsWrapAround() {
        Run x = new Run();
        x.setDesk(0, 1, 3);
        x.setDesk(1, 1, 1);
        boolean[] ways = {true, false, true, true, false, false, true, false};
        int[] ofThree = {1, 2, 5, 3, 6, 4, 1, 2};
        int[] ofOne = {1, 0, 1, 1, 0, 0, 1, 0};
        for (int k = 0; k < ways.length; k++) {
            x.branch(k, ways[k]);
            CHECK.same("the path of 3 ways", x.path(0, 0), ofThree[k]);
            CHECK.same("the path of 1 way", x.path(1, 0), ofOne[k]);
        }
        x.setDesk(0, 1, 0);
        x.branch(0, true);
        CHECK.same("the path of no way", x.path(0, 0), 0);
    }

    private static void commonAndOwnPaths() {
        for (int d = 0; d < 2; d++) {
            Run x = new Run();
            x.setDesk(d, 1, 2);
            x.branch(0, true);
            x.branch(25, true);
            for (int p = 0; p < 26; p++) {
                CHECK.same("the common path for " + p, x.path(d, p), 3);
            }
            x.setDesk(d, 2, 1);
            x.branch(0, true);
            x.branch(25, true);
            x.branch(25, false);
            for (int p = 0; p < 26; p++) {
                CHECK.same("the own path of " + p, x.path(d, p), p == 0 ? 1 : p == 25 ? 2 : 0);
            }
        }
    }

    private static void numbersOfNotes() {
        String words = "is the one with the number, as the remainder by 2^size: ";
        int[] sizes = {6, 5, 4, 3, 2};
        CHECK.sentence("Terms", words + "mixing 0: the place", () -> {
            noteNumber(0, 6, 63, 25, sizes, 25, 25, 9, 1, 1);
            noteNumber(0, 6, 63, 16, sizes, 16, 16, 0, 0, 0);
            noteNumber(0, 6, 63, 15, sizes, 15, 15, 15, 7, 3);
            noteNumber(0, 0, 0, 0, sizes, 0, 0, 0, 0, 0);
        });
        CHECK.sentence("Terms", "1: the path", () -> {
            noteNumber(1, 6, 63, 25, sizes, 63, 31, 15, 7, 3);
            noteNumber(1, 6, 32, 25, sizes, 32, 0, 0, 0, 0);
            noteNumber(1, 0, 0, 25, sizes, 0, 0, 0, 0, 0);
        });
        CHECK.sentence("Terms", "2: the place plus the path", () -> {
            noteNumber(2, 6, 63, 25, sizes, 24, 24, 8, 0, 0);
            noteNumber(2, 6, 63, 1, sizes, 0, 0, 0, 0, 0);
            noteNumber(2, 6, 63, 0, sizes, 63, 31, 15, 7, 3);
            noteNumber(2, 2, 3, 25, sizes, 28, 28, 12, 4, 0);
            noteNumber(2, 0, 0, 25, sizes, 25, 25, 9, 1, 1);
        });
        CHECK.sentence("Terms", "3: the bits of the place and of the path, where those that both have are 0"
                + " (exclusive or)", () -> {
            noteNumber(3, 6, 63, 25, sizes, 38, 6, 6, 6, 2);
            noteNumber(3, 6, 21, 21, sizes, 0, 0, 0, 0, 0);
            noteNumber(3, 3, 3, 5, sizes, 6, 6, 6, 6, 2);
            noteNumber(3, 3, 4, 16, sizes, 20, 20, 4, 4, 0);
            noteNumber(3, 0, 0, 25, sizes, 25, 25, 9, 1, 1);
        });
        CHECK.sentence("Terms", "4: 2^length times the place, plus the path", () -> {
            noteNumber(4, 6, 63, 25, sizes, 63, 31, 15, 7, 3);
            noteNumber(4, 6, 0, 25, sizes, 0, 0, 0, 0, 0);
            noteNumber(4, 1, 1, 25, sizes, 51, 19, 3, 3, 3);
            noteNumber(4, 2, 3, 15, sizes, 63, 31, 15, 7, 3);
            noteNumber(4, 2, 3, 16, sizes, 3, 3, 3, 3, 3);
            noteNumber(4, 2, 1, 9, sizes, 37, 5, 5, 5, 1);
            noteNumber(4, 0, 0, 25, sizes, 25, 25, 9, 1, 1);
        });
    }

    /** The note for the place p, for each size one that is due, when the path is this one. */
    private static void noteNumber(int mixing, int length, int path, int p, int[] sizes, int... due) {
        for (int d = 0; d < 2; d++) {
            for (int k = 0; k < sizes.length; k++) {
                Run x = new Run();
                x.set(0, sizes[k]);
                x.setDesk(d, 0, mixing);
                x.setDesk(d, 1, length);
                for (int bit = length - 1; bit >= 0; bit--) {
                    x.branch(3, (path >> bit & 1) == 1);
                }
                String at = "mixing " + mixing + ", size " + sizes[k] + ", path " + path + ", place " + p;
                CHECK.same("the path: " + at, x.path(d, p), path);
                CHECK.same("the note: " + at, x.noteOf(d, p), due[k]);
                int uses = x.note(d, due[k], 2);
                x.branch(p, true);
                CHECK.same("the note that is used: " + at, x.note(d, due[k], 2), uses + 1);
            }
        }
    }

    private static void choosers() {
        CHECK.sentence("Terms", "Each place has a chooser, a number from 0 to 3, at first 1.", () -> {
            Run x = new Run();
            for (int p = 0; p < 26; p++) {
                CHECK.same("the chooser of " + p, x.place(p, 3), 1);
            }
            x.setDesk(1, 0, 0);
            x.strengthen(1, 7, 3);
            x.branch(7, true);
            for (int p = 0; p < 26; p++) {
                CHECK.same("the chooser of " + p, x.place(p, 3), p == 7 ? 2 : 1);
            }
        });
        CHECK.sentence("Terms", "what the note of the desk 0 for it says, if its chooser is below 2, otherwise what"
                + " that of the desk 1 says", TermsEdgesTest::whoIsBelieved);
    }

    private static void whoIsBelieved() {
        Run x = new Run();
        x.setDesk(1, 0, 0);
        int[] choosers = {1, 2, 3, 2, 1, 0};
        for (int k = 0; k < choosers.length; k++) {
            CHECK.same("the chooser", x.place(7, 3), choosers[k]);
            x.strengthen(0, 7, 3);
            x.strengthen(1, 7, 0);
            CHECK.same("the guess, chooser " + choosers[k] + ", 0 says taken", x.place(7, 4), choosers[k] < 2 ? 1 : 0);
            x.strengthen(0, 7, 0);
            x.strengthen(1, 7, 3);
            CHECK.same("the guess, chooser " + choosers[k] + ", 1 says taken", x.place(7, 4), choosers[k] < 2 ? 0 : 1);
            boolean towards1 = k + 1 < choosers.length && choosers[k + 1] > choosers[k];
            CHECK.same("the branch is guessed so", x.branch(7, towards1), (choosers[k] < 2) != towards1);
        }
    }
}
