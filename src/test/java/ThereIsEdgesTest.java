/** The edges of promise 1 and of promises 6 to 12: what there is. */
public final class ThereIsEdgesTest {
    private static final Check CHECK = new Check("ThereIsEdgesTest");
    private static final int[] FAR = {-1, Integer.MIN_VALUE, Integer.MAX_VALUE};

    public static void main(String[] args) {
        newObject();
        about();
        desk();
        note();
        place();
        pathAndNoteOf();
        share();
        CHECK.end();
    }

    private static void newObject() {
        CHECK.sentence("Promise 1", "Creates desks with the first settings that have seen no branch.", () -> {
            Run x = new Run();
            int[] about = {0, 0, 0, 0, 0, 0, 0, 4, 2, 2};
            for (int what = 0; what < about.length; what++) {
                CHECK.same("about(" + what + ")", x.about(what), about[what]);
            }
            int[][] desks = {{0, 0, 0, 0, 0}, {3, 4, 0, 0, 0}};
            for (int d = 0; d < 2; d++) {
                for (int what = 0; what < 5; what++) {
                    CHECK.same("desk(" + d + ", " + what + ")", x.desk(d, what), desks[d][what]);
                }
            }
            CHECK.sameText("a new object and one that forgets", Look.state(y -> { }), Look.state(Run::forget));
            CHECK.same("the text", x.clearText(), 0);
            CHECK.refuses(Check.STATE, "undo()", x::undo);
            CHECK.refuses(Check.STATE, "restore(0)", () -> x.restore(0));
            CHECK.refuses(Check.STATE, "restore(1)", () -> x.restore(1));
        });
    }

    // ---- promise 6

    private static void about() {
        CHECK.sentence("Promise 6", "Throws IllegalArgumentException if what is not 0 to 9", () -> {
            Run x = new Run();
            CHECK.same("about(0)", x.about(0), 0);
            CHECK.same("about(9)", x.about(9), 2);
            for (int what : new int[] {-1, 10, Integer.MIN_VALUE, Integer.MAX_VALUE}) {
                CHECK.refuses(Check.ARGUMENT, "about(" + what + ")", () -> x.about(what));
            }
        });
        CHECK.sentence("Promise 6", "0: the branches so far; 1: the right guesses; 2: the points", () -> {
            Run x = new Run();
            x.branch(25, false);
            x.branch(25, true);
            x.branch(0, false);
            x.branch(0, true);
            aboutIs(x, 0, 4);
            aboutIs(x, 1, 2);
            aboutIs(x, 2, 2 - 4);
            x.type("a+a+b-").play();
            aboutIs(x, 0, 7);
        });
        CHECK.sentence("Promise 6", "3: the clashes of the desk 0; 4: of the desk 1", () -> {
            Run x = new Run();
            x.branch(0, false);
            x.branch(16, false);
            aboutIs(x, 3, 1);
            aboutIs(x, 4, 1);
            x.branch(0, true);
            // The desk 1 has the path 1 now: the note 1 is a new one.
            x.branch(16, true);
            aboutIs(x, 3, 3);
            aboutIs(x, 4, 2);
        });
        CHECK.sentence("Promise 6", "5: the number of right guesses behind the last wrong one (all, if there was none)",
                ThereIsEdgesTest::lastSeries);
        CHECK.sentence("Promise 6", "6: the greatest number of right guesses one behind the other so far",
                ThereIsEdgesTest::longestSeries);
        CHECK.sentence("Promise 6", "7: the size; 8: the middle; 9: the penalty", () -> {
            Run x = new Run();
            x.set(0, 6);
            x.set(1, 1);
            x.set(2, 0);
            aboutIs(x, 7, 6);
            aboutIs(x, 8, 1);
            aboutIs(x, 9, 0);
        });
    }

    private static void aboutIs(Run x, int what, int due) {
        CHECK.same("about(" + what + ")", x.about(what), due);
    }

    private static void lastSeries() {
        Run x = new Run();
        aboutIs(x, 5, 0);
        for (int k = 1; k <= 20; k++) {
            x.branch(25, false);
            aboutIs(x, 5, k);
        }
        x.branch(25, true);
        aboutIs(x, 5, 0);
        x.branch(25, true);
        aboutIs(x, 5, 0);
        x.branch(3, false);
        aboutIs(x, 5, 1);
        x.branch(4, false);
        aboutIs(x, 5, 2);
        x.forget();
        aboutIs(x, 5, 0);
        x.branch(3, false);
        aboutIs(x, 5, 1);
    }

    private static void longestSeries() {
        Run x = new Run();
        aboutIs(x, 6, 0);
        x.branch(3, true);
        aboutIs(x, 6, 0);
        x.go(4, false, 3);
        aboutIs(x, 6, 3);
        x.branch(5, true);
        aboutIs(x, 6, 3);
        x.go(6, false, 2);
        aboutIs(x, 6, 3);
        x.branch(7, false);
        aboutIs(x, 6, 3);
        x.branch(7, false);
        aboutIs(x, 6, 4);
        x.forget();
        aboutIs(x, 6, 0);
    }

    // ---- promise 7

    private static void desk() {
        CHECK.sentence("Promise 7", "Throws IndexOutOfBoundsException if there is no such desk", () -> {
            Run x = new Run();
            for (int d : Check.NOT_OF_TWO) {
                for (int what = 0; what <= 4; what++) {
                    int asked = what;
                    CHECK.refuses(Check.INDEX, "desk(" + d + ", " + what + ")", () -> x.desk(d, asked));
                }
            }
        });
        CHECK.sentence("Promise 7", "Throws IllegalArgumentException if what is not 0 to 4", () -> {
            Run x = new Run();
            for (int d = 0; d < 2; d++) {
                int desk = d;
                CHECK.same("desk(" + d + ", 0)", x.desk(d, 0), 3 * d);
                CHECK.same("desk(" + d + ", 4)", x.desk(d, 4), 0);
                for (int what : new int[] {-1, 5, Integer.MIN_VALUE, Integer.MAX_VALUE}) {
                    CHECK.refuses(Check.ARGUMENT, "desk(" + d + ", " + what + ")", () -> x.desk(desk, what));
                }
            }
        });
        CHECK.sentence("Promise 7", "3: how often its notes were right by themselves", () -> {
            Run x = new Run();
            x.setDesk(1, 0, 0);
            x.strengthen(1, 7, 3);
            x.branch(7, true);
            x.branch(8, false);
            CHECK.same("desk(0, 3)", x.desk(0, 3), 1);
            CHECK.same("desk(1, 3)", x.desk(1, 3), 2);
            CHECK.same("right guesses", x.about(1), 1);
        });
        CHECK.sentence("Promise 7", "4: the number of its notes that were used", ThereIsEdgesTest::usedNotes);
    }

    private static void usedNotes() {
        Run x = new Run();
        x.set(0, 6);
        x.setDesk(1, 1, 0);
        x.setDesk(1, 0, 1);
        x.strengthen(0, 63, 3);
        CHECK.same("a strengthened note is not used", x.desk(0, 4), 0);
        for (int p = 0; p < 26; p++) {
            x.branch(p, true);
            x.branch(p, false);
            CHECK.same("desk(0, 4)", x.desk(0, 4), p + 1);
            CHECK.same("desk(1, 4)", x.desk(1, 4), 1);
        }
        // The ways of a counter that visits all numbers of 8 bits: every path of six ways comes.
        x.setDesk(0, 0, 1);
        x.setDesk(0, 1, 6);
        int r = 1;
        for (int k = 0; k < 300; k++) {
            r = (r * 5 + 3) % 256;
            x.branch(0, r >= 128);
        }
        CHECK.same("the last note is used", x.note(0, 63, 2) > 0, true);
        CHECK.same("the first note is used", x.note(0, 0, 2) > 0, true);
        CHECK.same("all are used", x.desk(0, 4), 64);
    }

    // ---- promise 8

    private static void note() {
        CHECK.sentence("Promise 8", "Throws IndexOutOfBoundsException if there is no such desk or note", () -> {
            for (int size = 2; size <= 6; size++) {
                noSuchNote(size);
            }
        });
        CHECK.sentence("Promise 8", "Throws IllegalArgumentException if what is not 0 to 3", () -> {
            Run x = new Run();
            for (int d = 0; d < 2; d++) {
                int desk = d;
                CHECK.same("note(" + d + ", 15, 0)", x.note(d, 15, 0), 1);
                CHECK.same("note(" + d + ", 15, 3)", x.note(d, 15, 3), 0);
                for (int what : new int[] {-1, 4, Integer.MIN_VALUE, Integer.MAX_VALUE}) {
                    CHECK.refuses(Check.ARGUMENT, "note(" + d + ", 15, " + what + ")", () -> x.note(desk, 15, what));
                }
            }
        });
        CHECK.sentence("Promise 8", "1: its last place, NONE if it was not used", () -> {
            Run x = new Run();
            CHECK.same("note(0, 0, 1)", x.note(0, 0, 1), Check.NONE);
            x.strengthen(0, 0, 3);
            CHECK.same("strengthen() is no use", x.note(0, 0, 1), Check.NONE);
            x.branch(0, true);
            CHECK.same("the place 0", x.note(0, 0, 1), 0);
            x.branch(16, true);
            CHECK.same("the place 16", x.note(0, 0, 1), 16);
            x.undo();
            x.undo();
            CHECK.same("behind undo()", x.note(0, 0, 1), Check.NONE);
            x.branch(25, true);
            CHECK.same("the place 25", x.note(0, 9, 1), 25);
            x.forget();
            CHECK.same("behind forget()", x.note(0, 9, 1), Check.NONE);
        });
        CHECK.sentence("Promise 8", "2: how often it was used; 3: how often it was right by itself", () -> {
            Run x = new Run();
            boolean[] ways = {false, true, true, true, false, false, false};
            int[] right = {1, 1, 1, 2, 2, 2, 3};
            for (int k = 0; k < ways.length; k++) {
                x.branch(9, ways[k]);
                CHECK.same("uses", x.note(0, 9, 2), k + 1);
                CHECK.same("right", x.note(0, 9, 3), right[k]);
            }
            CHECK.same("another note", x.note(0, 8, 2), 0);
        });
    }

    private static void noSuchNote(int size) {
        Run x = new Run();
        x.set(0, size);
        int behind = 1 << size;
        int[] first = {1, Check.NONE, 0, 0};
        for (int what = 0; what <= 3; what++) {
            int asked = what;
            for (int d = 0; d < 2; d++) {
                int desk = d;
                CHECK.same("note(" + d + ", last, " + what + ")", x.note(d, behind - 1, what), first[what]);
                CHECK.refuses(Check.INDEX, "note(" + d + ", " + behind + ", " + what + ")",
                        () -> x.note(desk, behind, asked));
                for (int i : FAR) {
                    CHECK.refuses(Check.INDEX, "note(" + d + ", " + i + ", " + what + ")",
                            () -> x.note(desk, i, asked));
                }
            }
            for (int d : Check.NOT_OF_TWO) {
                CHECK.refuses(Check.INDEX, "note(" + d + ", 0, " + what + ")", () -> x.note(d, 0, asked));
            }
        }
    }

    // ---- promise 9

    private static void place() {
        CHECK.sentence("Promise 9", "Throws IndexOutOfBoundsException if there is no such place", () -> {
            Run x = new Run();
            for (int what = 0; what <= 4; what++) {
                int asked = what;
                CHECK.same("place(0, " + what + ")", x.place(0, what), what == 3 ? 1 : 0);
                CHECK.same("place(25, " + what + ")", x.place(25, what), what == 3 ? 1 : 0);
                for (int p : Check.NO_PLACE) {
                    CHECK.refuses(Check.INDEX, "place(" + p + ", " + what + ")", () -> x.place(p, asked));
                }
            }
        });
        CHECK.sentence("Promise 9", "Throws IllegalArgumentException if what is not 0 to 4", () -> {
            Run x = new Run();
            for (int p : new int[] {0, 25}) {
                for (int what : new int[] {-1, 5, Integer.MIN_VALUE, Integer.MAX_VALUE}) {
                    CHECK.refuses(Check.ARGUMENT, "place(" + p + ", " + what + ")", () -> x.place(p, what));
                }
            }
        });
        CHECK.sentence("Promise 9", "0: the branches there so far; 1: those that were taken; 2: the right guesses;"
                + " 3: its chooser; 4: the guess for it, 1 for taken, otherwise 0", () -> {
            Run x = new Run();
            x.setDesk(1, 0, 0);
            x.branch(25, false);
            x.branch(25, true);
            x.branch(25, true);
            x.branch(9, true);
            int[] due = {3, 2, 1, 1, 1};
            int[] dueOf9 = {1, 1, 1, 1, 1};
            int[] dueOf0 = {0, 0, 0, 1, 0};
            for (int what = 0; what <= 4; what++) {
                CHECK.same("place(25, " + what + ")", x.place(25, what), due[what]);
                CHECK.same("place(9, " + what + ")", x.place(9, what), dueOf9[what]);
                CHECK.same("place(0, " + what + ")", x.place(0, what), dueOf0[what]);
            }
        });
    }

    // ---- promises 10 and 11

    private static void pathAndNoteOf() {
        CHECK.sentence("Promise 10", "Throws IndexOutOfBoundsException if there is no such desk or place", () -> {
            Run x = new Run();
            CHECK.same("path(0, 0)", x.path(0, 0), 0);
            CHECK.same("path(1, 25)", x.path(1, 25), 0);
            for (int d : Check.NOT_OF_TWO) {
                CHECK.refuses(Check.INDEX, "path(" + d + ", 0)", () -> x.path(d, 0));
                CHECK.refuses(Check.INDEX, "path(" + d + ", 26)", () -> x.path(d, 26));
            }
            for (int p : Check.NO_PLACE) {
                for (int own = 0; own < 2; own++) {
                    x.setDesk(1, 2, own);
                    CHECK.refuses(Check.INDEX, "path(0, " + p + ")", () -> x.path(0, p));
                    CHECK.refuses(Check.INDEX, "path(1, " + p + ")", () -> x.path(1, p));
                }
            }
        });
        CHECK.sentence("Promise 11", "Throws IndexOutOfBoundsException if there is no such desk or place", () -> {
            Run x = new Run();
            CHECK.same("noteOf(0, 0)", x.noteOf(0, 0), 0);
            CHECK.same("noteOf(1, 25)", x.noteOf(1, 25), 9);
            for (int d : Check.NOT_OF_TWO) {
                CHECK.refuses(Check.INDEX, "noteOf(" + d + ", 0)", () -> x.noteOf(d, 0));
                CHECK.refuses(Check.INDEX, "noteOf(" + d + ", 26)", () -> x.noteOf(d, 26));
            }
            for (int p : Check.NO_PLACE) {
                CHECK.refuses(Check.INDEX, "noteOf(0, " + p + ")", () -> x.noteOf(0, p));
                CHECK.refuses(Check.INDEX, "noteOf(1, " + p + ")", () -> x.noteOf(1, p));
            }
        });
    }

    // ---- promise 12

    private static void share() {
        CHECK.sentence("Promise 12", "NONE if there was none", () -> {
            Run x = new Run();
            CHECK.same("share(0)", x.share(0), Check.NONE);
            x.branch(1, true);
            CHECK.same("share(0)", x.share(0), Check.NONE);
            CHECK.same("share(25)", x.share(25), Check.NONE);
            x.branch(0, false);
            CHECK.same("share(0) of none taken", x.share(0), 0);
            x.undo();
            CHECK.same("share(0) behind undo()", x.share(0), Check.NONE);
            x.forget();
            CHECK.same("share(1) behind forget()", x.share(1), Check.NONE);
        });
        CHECK.sentence("Promise 12", "Throws IndexOutOfBoundsException if there is no such place", () -> {
            Run x = new Run();
            for (int p : Check.NO_PLACE) {
                CHECK.refuses(Check.INDEX, "share(" + p + ")", () -> x.share(p));
            }
        });
        CHECK.sentence("Promise 12", "the bits of a float: (the branches there that were taken, as a float) divided by"
                + " (all branches there, as a float)", ThereIsEdgesTest::shares);
    }

    private static void shares() {
        int[] all = {1, 1, 2, 3, 3, 5, 7, 10, 11, 49, 100, 200};
        int[] taken = {0, 1, 1, 1, 2, 4, 1, 3, 10, 48, 99, 1};
        for (int k = 0; k < all.length; k++) {
            for (int p : new int[] {0, 25}) {
                Run x = new Run().go(p, true, taken[k]).go(p, false, all[k] - taken[k]).go(7, true, 3);
                CHECK.same("share of " + taken[k] + " in " + all[k], x.share(p),
                        Float.floatToIntBits((float) taken[k] / (float) all[k]));
            }
        }
        CHECK.same("all", new Run().go(0, true, 3).go(0, true, 4).share(0), 0x3F800000);
        CHECK.same("none", new Run().go(0, false, 3).share(0), 0);
        CHECK.same("1 of 3", new Run().go(0, false, 2).go(0, true, 1).share(0), 0x3EAAAAAB);
        CHECK.same("2 of 3", new Run().go(0, false, 1).go(0, true, 2).share(0), 0x3F2AAAAB);
        // As many branches as 512 calls can bring: 431 times 300.
        Run x = Run.with("(((a-)9(a-)9(a-)7)4)3");
        x.branch(0, true);
        int plays = 0;
        while (x.callsLeft() > 1) {
            x.play();
            plays++;
        }
        CHECK.same("1 of many", x.share(0), Float.floatToIntBits(1f / (1 + 300f * plays)));
        Run y = Run.with("(((a+)9(a+)9(a+)7)4)3");
        y.branch(0, false);
        for (int k = 0; k < plays; k++) {
            y.play();
        }
        CHECK.same("many but 1", y.share(0), Float.floatToIntBits(300f * plays / (1 + 300f * plays)));
    }
}
