import java.util.function.Consumer;

/** The edges of promises 13 to 18: actions. (Promise 19 is in UndoEdgesTest.) */
public final class ActionsEdgesTest {
    private static final Check CHECK = new Check("ActionsEdgesTest");
    private static final int[] DESK_MOST = {4, 6, 1};
    private static final int[] COMMON_LEAST = {2, 1, 0};
    private static final int[] COMMON_MOST = {6, 4, 9};

    public static void main(String[] args) {
        setDesk();
        set();
        forget();
        strengthen();
        branch();
        play();
        CHECK.end();
    }

    /** Other settings than the first ones, and something of everything that is counted. */
    private static void begin(Run x) {
        x.setDesk(0, 0, 2);
        x.setDesk(0, 1, 3);
        x.setDesk(1, 2, 1);
        x.set(1, 3);
        x.set(2, 1);
        count(x);
    }

    private static void beginWithoutCounting(Run x) {
        x.setDesk(0, 0, 2);
        x.setDesk(0, 1, 3);
        x.setDesk(1, 2, 1);
        x.set(1, 3);
        x.set(2, 1);
    }

    private static void count(Run x) {
        x.type("(a+b-q+)5z-");
        x.strengthen(0, 5, 0);
        x.strengthen(1, 15, 5);
        x.play();
        x.branch(25, true);
    }

    // ---- promise 13

    private static void setDesk() {
        CHECK.sentence("Promise 13", "v: 0 to 4 for the mixing, 0 to 6 for the length, 0 or 1 for own ones",
                ActionsEdgesTest::setDeskRanges);
        CHECK.sentence("Promise 13", "Returns the previous value.", () -> {
            Run x = new Run();
            int[][] first = {{0, 0, 0}, {3, 4, 0}};
            for (int d = 0; d < 2; d++) {
                for (int what = 0; what < 3; what++) {
                    CHECK.same("the first value", x.setDesk(d, what, DESK_MOST[what]), first[d][what]);
                    CHECK.same("the greatest value", x.setDesk(d, what, 0), DESK_MOST[what]);
                    CHECK.same("0", x.setDesk(d, what, 1), 0);
                    CHECK.same("the same value again", x.setDesk(d, what, 1), 1);
                }
            }
        });
        CHECK.sentence("Promise 13", "all notes, paths, choosers and all that was counted become as at first (points"
                + " and clashes, too; other settings stay)", () -> {
            for (int d = 0; d < 2; d++) {
                for (int what = 0; what < 3; what++) {
                    for (int v : new int[] {0, 1, DESK_MOST[what]}) {
                        int desk = d;
                        int setting = what;
                        asAtFirst(x -> x.setDesk(desk, setting, v));
                    }
                }
            }
        });
        CHECK.sentence("Promise 13", "Throws IndexOutOfBoundsException if there is no such desk", () -> {
            Run x = new Run();
            for (int d : Check.NOT_OF_TWO) {
                for (int what = 0; what < 3; what++) {
                    int asked = what;
                    CHECK.refuses(Check.INDEX, "setDesk(" + d + ", " + what + ", 1)", () -> x.setDesk(d, asked, 1));
                }
            }
        });
        CHECK.sentence("Promise 13", "Throws IllegalArgumentException if what or v is out of range", () -> {
            Run x = new Run();
            for (int d = 0; d < 2; d++) {
                int desk = d;
                for (int what : new int[] {-1, 3, Integer.MIN_VALUE, Integer.MAX_VALUE}) {
                    CHECK.refuses(Check.ARGUMENT, "setDesk(" + d + ", " + what + ", 0)",
                            () -> x.setDesk(desk, what, 0));
                }
            }
        });
    }

    /** An action that makes all as at first answers the same behind it, whatever was counted before. */
    private static void asAtFirst(Consumer<Run> action) {
        CHECK.sameText("all but the settings is as at first", Look.state(x -> {
            begin(x);
            action.accept(x);
        }), Look.state(x -> {
            beginWithoutCounting(x);
            action.accept(x);
        }));
    }

    private static void setDeskRanges() {
        for (int d = 0; d < 2; d++) {
            int desk = d;
            for (int what = 0; what < 3; what++) {
                int setting = what;
                Run x = new Run();
                for (int v = 0; v <= DESK_MOST[what]; v++) {
                    x.setDesk(d, what, v);
                    CHECK.same("desk(" + d + ", " + what + ")", x.desk(d, what), v);
                }
                for (int v : new int[] {-1, DESK_MOST[what] + 1, Integer.MIN_VALUE, Integer.MAX_VALUE}) {
                    CHECK.refuses(Check.ARGUMENT, "setDesk(" + d + ", " + what + ", " + v + ")",
                            () -> x.setDesk(desk, setting, v));
                    CHECK.same("desk(" + d + ", " + what + ")", x.desk(d, what), DESK_MOST[what]);
                }
            }
        }
    }

    // ---- promise 14

    private static void set() {
        CHECK.sentence("Promise 14", "v: 2 to 6 for the size, 1 to 4 for the middle, 0 to 9 for the penalty", () -> {
            for (int what = 0; what < 3; what++) {
                setRange(what);
            }
        });
        CHECK.sentence("Promise 14", "Returns the previous value.", () -> {
            Run x = new Run();
            int[] first = {4, 2, 2};
            for (int what = 0; what < 3; what++) {
                CHECK.same("the first value", x.set(what, COMMON_MOST[what]), first[what]);
                CHECK.same("the greatest value", x.set(what, COMMON_LEAST[what]), COMMON_MOST[what]);
                CHECK.same("the smallest value", x.set(what, 3), COMMON_LEAST[what]);
                CHECK.same("the same value again", x.set(what, 3), 3);
            }
        });
        CHECK.sentence("Promise 14", "all notes, paths, choosers and all that was counted become as at first (points"
                + " and clashes, too; other settings stay)", () -> {
            for (int what = 0; what < 3; what++) {
                for (int v : new int[] {COMMON_LEAST[what], 2, COMMON_MOST[what]}) {
                    int setting = what;
                    asAtFirst(x -> x.set(setting, v));
                }
            }
        });
        CHECK.sentence("Promise 14", "Throws IllegalArgumentException if what or v is out of range", () -> {
            Run x = new Run();
            for (int what : new int[] {-1, 3, Integer.MIN_VALUE, Integer.MAX_VALUE}) {
                CHECK.refuses(Check.ARGUMENT, "set(" + what + ", 2)", () -> x.set(what, 2));
            }
        });
    }

    private static void setRange(int what) {
        Run x = new Run();
        for (int v = COMMON_LEAST[what]; v <= COMMON_MOST[what]; v++) {
            x.set(what, v);
            CHECK.same("about(" + (7 + what) + ")", x.about(7 + what), v);
        }
        int most = COMMON_MOST[what];
        for (int v : new int[] {COMMON_LEAST[what] - 1, most + 1, Integer.MIN_VALUE, Integer.MAX_VALUE}) {
            CHECK.refuses(Check.ARGUMENT, "set(" + what + ", " + v + ")", () -> x.set(what, v));
            CHECK.same("about(" + (7 + what) + ")", x.about(7 + what), most);
        }
    }

    // ---- promise 15

    private static void forget() {
        CHECK.sentence("Promise 15", "Makes all notes, paths, choosers and all that was counted as at first (points and"
                + " clashes, too).", () -> {
            asAtFirst(Run::forget);
            CHECK.sameText("the settings stay", Look.state(x -> {
                begin(x);
                x.forget();
            }), Look.state(ActionsEdgesTest::beginWithoutCounting));
        });
        CHECK.sentence("Promise 15", "Returns the points that there were.", () -> {
            Run x = new Run();
            CHECK.same("forget() of none", x.forget(), 0);
            x.branch(3, true);
            CHECK.same("forget() of fewer than 0", x.forget(), -2);
            CHECK.same("forget() again", x.forget(), 0);
            x.branch(3, false);
            CHECK.same("forget() of one", x.forget(), 1);
        });
    }

    // ---- promise 16

    private static void strengthen() {
        CHECK.sentence("Promise 16", "v: 0 to 2 * middle - 1", () -> {
            for (int middle = 1; middle <= 4; middle++) {
                strengthsOf(middle);
            }
        });
        CHECK.sentence("Promise 16", "Changes the strength of a note.", () -> {
            String before = Look.state(ActionsEdgesTest::begin);
            CHECK.same("a strength changes the state", !before.equals(Look.state(x -> {
                begin(x);
                x.strengthen(1, 0, 5);
            })), true);
            CHECK.sameText("nothing but the strength", Look.state(x -> {
                begin(x);
                int was = x.strengthen(1, 0, 5);
                x.strengthen(1, 0, was);
            }), before);
        });
        CHECK.sentence("Promise 16", "Returns its previous strength.", () -> {
            Run x = new Run();
            for (int d = 0; d < 2; d++) {
                CHECK.same("the first strength", x.strengthen(d, 15, 3), 1);
                CHECK.same("the greatest", x.strengthen(d, 15, 0), 3);
                CHECK.same("the smallest", x.strengthen(d, 15, 0), 0);
                CHECK.same("of another note", x.strengthen(d, 14, 2), 1);
            }
        });
        CHECK.sentence("Promise 16", "Throws IndexOutOfBoundsException if there is no such desk or note", () -> {
            for (int size = 2; size <= 6; size++) {
                noSuchNote(size);
            }
        });
        CHECK.sentence("Promise 16", "Throws IllegalArgumentException if v is out of range", () -> {
            Run x = new Run();
            for (int d = 0; d < 2; d++) {
                int desk = d;
                for (int v : new int[] {-1, 4, Integer.MIN_VALUE, Integer.MAX_VALUE}) {
                    CHECK.refuses(Check.ARGUMENT, "strengthen(" + d + ", 0, " + v + ")",
                            () -> x.strengthen(desk, 0, v));
                }
            }
        });
    }

    private static void strengthsOf(int middle) {
        Run x = new Run();
        x.set(1, middle);
        for (int v = 0; v < 2 * middle; v++) {
            x.strengthen(0, 3, v);
            CHECK.same("note(0, 3, 0)", x.note(0, 3, 0), v);
        }
        for (int v : new int[] {-1, 2 * middle, 99}) {
            CHECK.refuses(Check.ARGUMENT, "strengthen(0, 3, " + v + ")", () -> x.strengthen(0, 3, v));
            CHECK.same("note(0, 3, 0)", x.note(0, 3, 0), 2 * middle - 1);
        }
    }

    private static void noSuchNote(int size) {
        Run x = new Run();
        x.set(0, size);
        int behind = 1 << size;
        for (int d = 0; d < 2; d++) {
            int desk = d;
            CHECK.same("the last note", x.strengthen(d, behind - 1, 3), 1);
            CHECK.same("the first note", x.strengthen(d, 0, 3), 1);
            for (int i : new int[] {-1, behind, Integer.MIN_VALUE, Integer.MAX_VALUE}) {
                CHECK.refuses(Check.INDEX, "strengthen(" + d + ", " + i + ", 0)", () -> x.strengthen(desk, i, 0));
            }
        }
        for (int d : Check.NOT_OF_TWO) {
            CHECK.refuses(Check.INDEX, "strengthen(" + d + ", 0, 0)", () -> x.strengthen(d, 0, 0));
        }
    }

    // ---- promise 17

    private static void branch() {
        CHECK.sentence("Promise 17", "Returns whether the guess was right.", () -> {
            Run x = new Run();
            CHECK.same("not taken", x.branch(25, false), true);
            CHECK.same("taken", x.branch(25, true), false);
            x.strengthen(0, 9, 2);
            CHECK.same("taken", x.branch(25, true), true);
            CHECK.same("not taken", x.branch(25, false), false);
        });
        CHECK.sentence("Promise 17", "Throws IndexOutOfBoundsException if there is no such place", () -> {
            Run x = new Run();
            x.branch(0, true);
            x.branch(25, true);
            for (int p : Check.NO_PLACE) {
                CHECK.refuses(Check.INDEX, "branch(" + p + ", true)", () -> x.branch(p, true));
                CHECK.refuses(Check.INDEX, "branch(" + p + ", false)", () -> x.branch(p, false));
            }
            CHECK.same("branches so far", x.about(0), 2);
        });
    }

    // ---- promise 18

    private static void play() {
        CHECK.sentence("Promise 18", "All branches of the text go their ways, one after the other.", () -> {
            playIs("a+b-", "a+b-");
            playIs("(a+b-)3c-", "a+b-a+b-a+b-c-");
            playIs("z+((a+)2b-)2(z-)9", "z+a+a+b-a+a+b-" + "z-".repeat(9));
            playIs("((((a+)2b-)2c+)2d-)2", "a+a+b-a+a+b-c+".repeat(2).concat("d-").repeat(2));
        });
        CHECK.sentence("Promise 18", "All together is one action.", () -> {
            Run x = Run.with("(a+b-)9");
            x.branch(3, true);
            x.play();
            x.play();
            CHECK.same("undo()", x.undo(), 2);
            CHECK.same("branches so far", x.about(0), 19);
            CHECK.same("undo()", x.undo(), 1);
            CHECK.same("branches so far", x.about(0), 1);
        });
        CHECK.sentence("Promise 18", "The text stays.", () -> {
            Run x = Run.with("(a+b-)9");
            x.play();
            CHECK.same("branches()", x.branches(), 18);
            CHECK.same("clearText()", x.clearText(), 7);
        });
        CHECK.sentence("Promise 18", "Returns how many guesses were right.", () -> {
            CHECK.same("play() of nothing", new Run().play(), 0);
            CHECK.same("play(), all wrong", Run.with("a+b+").play(), 0);
            CHECK.same("play(), all right", Run.with("a-b-").play(), 2);
            Run x = Run.with("a+a+a+a-");
            CHECK.same("play(), two right", x.play(), 2);
            CHECK.same("play() again, three right of its own", x.play(), 3);
            CHECK.same("play() of 300, all right", Run.with("(((a-)9(a-)9(a-)7)4)3").play(), 300);
        });
        CHECK.sentence("Promise 18", "Throws IllegalStateException if the text is no trace", () -> {
            for (String text : new String[] {"a", "(", "(a+", "(a+)", "a+b", "a+)", "?", "((((("}) {
                Run x = Run.with(text);
                CHECK.refuses(Check.STATE, "play() of " + text, x::play);
                CHECK.same("branches so far", x.about(0), 0);
                CHECK.refuses(Check.STATE, "undo()", x::undo);
            }
        });
        CHECK.sentence("Promise 18", "or has more than 300 branches", ActionsEdgesTest::playLimit);
    }

    /** The text brings the same as all branches one by one. */
    private static void playIs(String text, String one) {
        CHECK.sameText("play() of " + text, Look.state(x -> x.type(text).play()), Look.state(x -> {
            for (int k = 0; k < one.length(); k += 2) {
                x.branch(one.charAt(k) - 'a', one.charAt(k + 1) == '+');
            }
        }));
    }

    private static void playLimit() {
        for (String text : new String[] {"(((a-)9(a-)9(a-)7)4)3", "((((a-)5)5)6)2", "(((z-y-x-)5)5)4"}) {
            Run x = Run.with(text);
            CHECK.same("branches() of " + text, x.branches(), 300);
            CHECK.same("play() of 300", x.play(), 300);
            CHECK.same("branches so far", x.about(0), 300);
            refusesPlay(text + "a-", 301);
            refusesPlay("a-" + text, 301);
            refusesPlay("(a-)2" + text, 302);
        }
        // Nothing of a text with too many branches comes back with the next text.
        Run z = Run.with("((((z+)9)9)9)9");
        CHECK.refuses(Check.STATE, "play() of 6561", z::play);
        z.clearText();
        CHECK.same("play() of the next text", z.type("(a-)3").play(), 3);
        CHECK.same("branches at z", z.place(25, 0), 0);
        // The 300th branch is another one than all before it.
        Run y = Run.with("((a-)9(a-)9(a-)9(a-)6)9b+c+d+");
        CHECK.same("play() of 300, three of them wrong", y.play(), 297);
        CHECK.same("the last one is taken at the place 3", y.place(3, 1), 1);
        CHECK.same("play() of 299", Run.with("(((a-)9(a-)9(a-)5)4)3(a-)9(a-)9a-a-a-a-a-").play(), 299);
        refusesPlay("((((a-)7)7)7)2", 686);
        refusesPlay("((((" + "a-".repeat(34) + ")9)9)9)9", 223074);
    }

    private static void refusesPlay(String text, int branches) {
        Run x = Run.with(text);
        CHECK.same("branches() of " + text, x.branches(), branches);
        CHECK.refuses(Check.STATE, "play() of " + text, x::play);
        CHECK.same("branches so far", x.about(0), 0);
        CHECK.refuses(Check.STATE, "undo()", x::undo);
    }
}
