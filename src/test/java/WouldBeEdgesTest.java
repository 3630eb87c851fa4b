import java.util.function.Consumer;

/** The edges of promises 20 to 25: what would be. */
public final class WouldBeEdgesTest {
    private static final Check CHECK = new Check("WouldBeEdgesTest");
    /** All right by the first strengths: 300 branches, and one more. */
    private static final String OF_300 = "(((a-)9(a-)9(a-)7)4)3";
    private static final String OF_301 = OF_300 + "a-";
    private static final String[] NO_TRACES = {"a", "(", "(a+)", "a+b", "a+)", "?", "((((("};

    public static void main(String[] args) {
        wouldBring();
        bestMixing();
        bestLength();
        sharing();
        holds();
        worst();
        nothingChanges();
        CHECK.end();
    }

    private static void begin(Run x) {
        x.set(0, 5);
        x.strengthen(0, 0, 3);
        x.branch(0, false);
        x.branch(1, true);
        x.save(0);
        x.branch(25, true);
        x.type("(a+b-q+)5z-");
    }

    private static void nothingChanges() {
        CHECK.sentence("What would be", "these and all following methods up to the save slots change nothing", () -> {
            String before = Look.whole(WouldBeEdgesTest::begin);
            changesNothing(before, Run::wouldBring);
            changesNothing(before, x -> x.bestMixing(0));
            changesNothing(before, x -> x.bestMixing(1));
            changesNothing(before, x -> x.bestLength(0));
            changesNothing(before, x -> x.bestLength(1));
            changesNothing(before, x -> x.sharing(0, 0));
            changesNothing(before, x -> x.holds(0));
            changesNothing(before, x -> x.holds(25));
            changesNothing(before, Run::worst);
            changesNothing(before, x -> x.runScript(3, 100193260050003L));
            changesNothing(before, x -> x.runScript(2, 2114040000L));
            changesNothing(before, x -> x.runScript(2, 1031900000L));
            changesNothing(before, x -> x.simulate(1, 300));
        });
    }

    private static void changesNothing(String before, Consumer<Run> call) {
        CHECK.sameText("the same as without the call", Look.whole(x -> {
            begin(x);
            call.accept(x);
        }), before);
        CHECK.sameText("the same as without two such calls", Look.whole(x -> {
            begin(x);
            call.accept(x);
            call.accept(x);
        }), before);
    }

    // ---- promise 20

    private static void wouldBring() {
        CHECK.sentence("Promise 20", "Returns by how many points they would become more (less than 0: fewer) if play()"
                + " was called now", () -> {
            CHECK.same("wouldBring() of nothing", new Run().wouldBring(), 0);
            CHECK.same("wouldBring() of a right one", Run.with("a-").wouldBring(), 1);
            CHECK.same("wouldBring() of a wrong one", Run.with("a+").wouldBring(), -2);
            CHECK.same("wouldBring() of 1 - 2 + 1", Run.with("a-a+a-").wouldBring(), 0);
            Run x = Run.with("(a+b-q+)5z-");
            for (int k = 0; k < 6; k++) {
                x.branch(k, true);
                int would = x.wouldBring();
                int before = x.about(2);
                x.play();
                CHECK.same("wouldBring() and play()", would, x.about(2) - before);
            }
            Run y = Run.with("a+b+c+d+");
            y.set(2, 9);
            CHECK.same("wouldBring(), penalty 9", y.wouldBring(), -36);
            y.set(2, 0);
            CHECK.same("wouldBring(), penalty 0", y.wouldBring(), 0);
        });
        CHECK.sentence("Promise 20", "NONE if it would throw an exception", () -> {
            for (String text : NO_TRACES) {
                CHECK.same("wouldBring() of " + text, Run.with(text).wouldBring(), Check.NONE);
            }
            CHECK.same("wouldBring() of 300", Run.with(OF_300).wouldBring(), 300);
            CHECK.same("wouldBring() of 301", Run.with(OF_301).wouldBring(), Check.NONE);
            CHECK.same("wouldBring() of 6561", Run.with("((((a-)9)9)9)9").wouldBring(), Check.NONE);
        });
    }

    // ---- promises 21 and 22

    private static void bestMixing() {
        CHECK.sentence("Promise 21", "Returns the mixing of this desk with which the text would bring most points", () -> {
            best(0, 0, "(b-a+)5", 3, 0, "0");
            best(0, 0, "(a+a-)7b+", 3, 0, "1");
            best(0, 0, "(b+b-q+)6", 3, 0, "2");
            best(0, 0, "a+b+", 3, 0, "3");
            best(0, 0, "b+(a-)8z+", 3, 0, "4");
            best(1, 0, "q+(q-)9", 1, 0, "0");
            best(1, 0, "z+(a-q+)7", 1, 0, "1");
            best(1, 0, "(b+a-q+)6", 3, 0, "2");
            best(1, 0, "b-(a+b+)4", 1, 0, "3");
            best(1, 0, "(q-b-a-b+)6", 2, 0, "4");
            best(1, 0, "(a+b+a-)4", 1, 1, "4");
        });
        CHECK.sentence("Promise 21", "among several the smallest one", () -> {
            best(0, 0, "b-", 3, 0, "01234");
            best(0, 0, "(b+z-a+)5a-", 3, 0, "02");
            best(0, 0, "a+(b-)9", 3, 0, "024");
            best(0, 0, "z+b-z-", 3, 0, "1234");
            best(0, 0, "(a+q-)7(b+)8", 3, 0, "13");
            best(0, 0, "a+b-a-(z-)8", 3, 0, "24");
            best(0, 0, "z+(b+b-)9q-", 3, 0, "34");
            best(1, 0, "(b-b+)8", 1, 0, "1234");
            best(1, 0, "q-b+(q+)7", 1, 0, "23");
            best(1, 0, "(b+a-a+)6", 1, 1, "34");
            best(1, 0, "b+(q+b-)7", 2, 0, "04");
            CHECK.same("bestMixing(0) of nothing", new Run().bestMixing(0), 0);
            CHECK.same("bestMixing(1) of nothing", new Run().bestMixing(1), 0);
        });
        CHECK.sentence("Promise 21", "if all was as at first but the settings", () -> bestBehindAll(0));
        CHECK.sentence("Promise 21", "NONE if play() would throw an exception", () -> noBest(0));
        CHECK.sentence("Promise 21", "Throws IndexOutOfBoundsException if there is no such desk", () -> noDeskForBest(0));
    }

    private static void bestLength() {
        CHECK.sentence("Promise 22", "Returns the same with the length of its paths.", () -> {
            bestOfPaths(0, "(b+a+)9", 4, "0");
            bestOfPaths(0, "(a+a-)6", 4, "1");
            bestOfPaths(0, "(b-q+a+)6", 4, "2");
            bestOfPaths(0, "(q+(z-)3)3", 4, "3");
            bestOfPaths(0, "((a+)5a-)9((a+)5a-)9", 6, "5");
            bestOfPaths(0, "((a+)6a-)9((a+)6a-)9", 6, "6");
            bestOfPaths(1, "((a+)6a-)9((a+)6a-)9", 6, "6");
        });
        CHECK.sentence("Promise 22", "Returns the same", () -> {
            bestOfPaths(0, "b-", 4, "0123456");
            bestOfPaths(0, "(a+a-q+q+)5", 4, "013");
            bestOfPaths(0, "z+b-z-", 4, "23456");
            bestOfPaths(0, "q+(q-)9", 4, "456");
            bestOfPaths(0, "q+(b+q-q-)5", 4, "2456");
            bestOfPaths(1, "((a+)5a-)9((a+)5a-)9", 6, "56");
            bestOfPaths(1, "((a+)4a-)9((a+)4a-)9", 6, "456");
            CHECK.same("bestLength(0) of nothing", new Run().bestLength(0), 0);
            CHECK.same("bestLength(1) of nothing", new Run().bestLength(1), 0);
            bestBehindAll(1);
            noBest(1);
        });
        CHECK.sentence("Promise 22", "Throws IndexOutOfBoundsException if there is no such desk", () -> noDeskForBest(1));
    }

    private static int askBest(Run x, int d, int what) {
        return what == 0 ? x.bestMixing(d) : x.bestLength(d);
    }

    /** The desk d with paths of this length; all values that are best are told, so that a tie is a tie. */
    private static void best(int d, int what, String text, int length, int own, String due) {
        Run x = Run.with(text);
        x.setDesk(d, 1, length);
        x.setDesk(d, 2, own);
        CHECK.same("the best mixing of the desk " + d + " for " + text, askBest(x, d, what), due.charAt(0) - '0');
        Model model = modelWith(text);
        model.setDesk(d, 1, length);
        model.setDesk(d, 2, own);
        CHECK.sameText("all that are best for " + text, allBest(model, d, what), due);
    }

    /** The note of the desk d is found by the path alone. */
    private static void bestOfPaths(int d, String text, int size, String due) {
        Run x = Run.with(text);
        x.set(0, size);
        x.setDesk(d, 0, 1);
        CHECK.same("the best length of the desk " + d + " for " + text, x.bestLength(d), due.charAt(0) - '0');
        Model model = modelWith(text);
        model.set(0, size);
        model.setDesk(d, 0, 1);
        CHECK.sameText("all that are best for " + text, allBest(model, d, 1), due);
    }

    private static Model modelWith(String text) {
        Model model = new Model();
        for (char c : text.toCharArray()) {
            model.append(c);
        }
        return model;
    }

    private static String allBest(Model model, int d, int what) {
        int most = Integer.MIN_VALUE;
        String all = "";
        for (int v = 0; v <= (what == 0 ? 4 : 6); v++) {
            model.setDesk(d, what, v);
            int points = model.wouldBring();
            all = points > most ? "" + v : points == most ? all + v : all;
            most = Math.max(most, points);
        }
        return all;
    }

    /** What was counted, strengthened and chosen before makes no difference; the settings of now do. */
    private static void bestBehindAll(int what) {
        String[] texts = {"(a+a-)6", "(b+b-q+)6", "b+(a-)8z+", "a+b+", "(b+a+)9"};
        for (String text : texts) {
            for (int d = 0; d < 2; d++) {
                Run fresh = Run.with(text);
                othersThanFirst(fresh);
                int due = askBest(fresh, d, what);
                Run used = Run.with(text);
                othersThanFirst(used);
                for (int i = 0; i < 64; i++) {
                    used.strengthen(0, i, i % 2 == 0 ? 0 : 5);
                    used.strengthen(1, i, i % 3 == 0 ? 5 : 0);
                }
                used.play();
                used.go(0, true, 3).go(1, true, 4);
                CHECK.same("behind all that for " + text, askBest(used, d, what), due);
                Model model = modelWith(text);
                othersThanFirst(model);
                CHECK.same("by the model for " + text, due, allBest(model, d, what).charAt(0) - '0');
            }
        }
        // The other settings count: the same text, and the best value is another one.
        Run x = Run.with("(a+a-)7b+");
        CHECK.same("the desk 0 without a path", askBest(x, 0, 0), 0);
        x.setDesk(0, 1, 3);
        CHECK.same("the desk 0 with a path", askBest(x, 0, 0), 1);
    }

    private static void othersThanFirst(Run x) {
        x.set(0, 6);
        x.set(1, 3);
        x.set(2, 1);
        x.setDesk(0, 2, 1);
        x.setDesk(1, 2, 1);
        x.setDesk(0, 0, 2);
        x.setDesk(0, 1, 2);
    }

    private static void othersThanFirst(Model x) {
        x.set(0, 6);
        x.set(1, 3);
        x.set(2, 1);
        x.setDesk(0, 2, 1);
        x.setDesk(1, 2, 1);
        x.setDesk(0, 0, 2);
        x.setDesk(0, 1, 2);
    }

    private static void noBest(int what) {
        for (int d = 0; d < 2; d++) {
            for (String text : NO_TRACES) {
                CHECK.same("the best of " + text, askBest(Run.with(text), d, what), Check.NONE);
            }
            CHECK.same("the best of 300", askBest(Run.with(OF_300), d, what), 0);
            CHECK.same("the best of 301", askBest(Run.with(OF_301), d, what), Check.NONE);
        }
    }

    private static void noDeskForBest(int what) {
        Run x = Run.with("(a+b-)9");
        Run y = Run.with("a");
        for (int d : Check.NOT_OF_TWO) {
            CHECK.refuses(Check.INDEX, "the best of the desk " + d, () -> askBest(x, d, what));
            CHECK.refuses(Check.INDEX, "the best of the desk " + d + " without a trace", () -> askBest(y, d, what));
        }
    }

    // ---- promise 23

    private static void sharing() {
        CHECK.sentence("Promise 23", "Returns the other places, bit q set for the place q, that have the same note of"
                + " this desk now.", WouldBeEdgesTest::sharedNotes);
        CHECK.sentence("Promise 23", "Throws IndexOutOfBoundsException if there is no such desk or place", () -> {
            Run x = new Run();
            for (int d : Check.NOT_OF_TWO) {
                CHECK.refuses(Check.INDEX, "sharing(" + d + ", 0)", () -> x.sharing(d, 0));
                CHECK.refuses(Check.INDEX, "sharing(" + d + ", 26)", () -> x.sharing(d, 26));
            }
            for (int p : Check.NO_PLACE) {
                CHECK.refuses(Check.INDEX, "sharing(0, " + p + ")", () -> x.sharing(0, p));
                CHECK.refuses(Check.INDEX, "sharing(1, " + p + ")", () -> x.sharing(1, p));
            }
        });
    }

    private static void sharedNotes() {
        int all = (1 << 26) - 1;
        Run x = new Run();
        CHECK.same("sharing(0, 0) of 16 notes", x.sharing(0, 0), 1 << 16);
        CHECK.same("sharing(0, 9) of 16 notes", x.sharing(0, 9), 1 << 25);
        CHECK.same("sharing(0, 25) of 16 notes", x.sharing(0, 25), 1 << 9);
        CHECK.same("sharing(0, 10) of 16 notes", x.sharing(0, 10), 0);
        x.set(0, 5);
        for (int p = 0; p < 26; p++) {
            CHECK.same("sharing(0, " + p + ") of 32 notes", x.sharing(0, p), 0);
        }
        x.set(0, 2);
        CHECK.same("sharing(0, 0) of 4 notes", x.sharing(0, 0), 0x1111110);
        CHECK.same("sharing(0, 25) of 4 notes", x.sharing(0, 25), 0x0222222);
        x.setDesk(0, 0, 1);
        for (int p = 0; p < 26; p++) {
            CHECK.same("sharing(0, " + p + ") of one note", x.sharing(0, p), all - (1 << p));
            CHECK.same("sharing(1, " + p + ") of 4 notes", x.sharing(1, p) & 1 << p, 0);
        }
        x.setDesk(0, 1, 1);
        x.setDesk(0, 2, 1);
        x.branch(0, true);
        CHECK.same("sharing(0, 0): no other has this path", x.sharing(0, 0), 0);
        CHECK.same("sharing(0, 1)", x.sharing(0, 1), all - 1 - 2);
        x.branch(25, true);
        CHECK.same("sharing(0, 0) now", x.sharing(0, 0), 1 << 25);
        CHECK.same("sharing(0, 25) now", x.sharing(0, 25), 1);
    }

    // ---- promise 24

    private static void holds() {
        CHECK.sentence("Promise 24", "Returns the smallest number of branches, 1 to 98, behind which the guess for this"
                + " place is the other one", () -> {
            for (int middle = 1; middle <= 4; middle++) {
                for (int length = 0; length <= 6; length++) {
                    holdsLong(middle, length, true);
                    holdsLong(middle, length, false);
                }
            }
            changesAtOnceAndBack();
        });
        CHECK.sentence("Promise 24", "if all of them are at this place and go against the guess for it of now",
                WouldBeEdgesTest::holdsByBranches);
        CHECK.sentence("Promise 24", "99 if there is none", () -> {
            // There always is one: behind 6 branches the same way the paths rest, behind 4 more the notes say it.
            Run x = longestHold(4, 6, true);
            CHECK.same("the longest of all", x.holds(3), 10);
        });
        CHECK.sentence("Promise 24", "Throws IndexOutOfBoundsException if there is no such place", () -> {
            Run x = new Run();
            CHECK.same("holds(0)", x.holds(0), 1);
            CHECK.same("holds(25)", x.holds(25), 1);
            for (int p : Check.NO_PLACE) {
                CHECK.refuses(Check.INDEX, "holds(" + p + ")", () -> x.holds(p));
            }
        });
    }

    /** Both desks go by the path alone and say the same; each path that comes has a note of the last strength. */
    private static Run longestHold(int middle, int length, boolean taken) {
        Run x = new Run();
        x.set(0, 6);
        x.set(1, middle);
        int most = (1 << length) - 1;
        for (int d = 0; d < 2; d++) {
            x.setDesk(d, 0, 1);
            x.setDesk(d, 1, length);
        }
        x.go(3, taken, length);
        for (int d = 0; d < 2; d++) {
            for (int k = 0; k <= length; k++) {
                int path = taken ? most << k & most : (1 << k) - 1 & most;
                x.strengthen(d, path, taken ? 2 * middle - 1 : 0);
            }
        }
        CHECK.same("the guess", x.place(3, 4), taken ? 1 : 0);
        return x;
    }

    private static void holdsLong(int middle, int length, boolean taken) {
        Run x = longestHold(middle, length, taken);
        CHECK.same("holds(3), middle " + middle + ", length " + length, x.holds(3), length + middle);
    }

    /** The note of the first path says not taken, that of the second says taken, that of the third not. */
    private static void changesAtOnceAndBack() {
        Run x = new Run();
        for (int d = 0; d < 2; d++) {
            x.setDesk(d, 0, 1);
            x.setDesk(d, 1, 2);
            x.strengthen(d, 0, 0);
            x.strengthen(d, 1, 3);
            x.strengthen(d, 3, 0);
        }
        x.strengthen(0, 0, 0);
        x.strengthen(0, 1, 3);
        x.strengthen(0, 3, 0);
        CHECK.same("holds(3)", x.holds(3), 1);
        x.branch(3, true);
        CHECK.same("the guess behind one", x.place(3, 4), 1);
        x.branch(3, true);
        CHECK.same("the guess behind two", x.place(3, 4), 0);
    }

    private static void holdsByBranches() {
        int r = 7;
        for (int run = 0; run < 60; run++) {
            Run x = new Run();
            x.set(0, 2 + run % 5);
            x.set(1, 1 + run % 4);
            x.setDesk(run % 2, 0, run % 5);
            x.setDesk(run % 2, 1, run % 7);
            x.setDesk(1 - run % 2, 2, run / 3 % 2);
            for (int k = 0; k < 60; k++) {
                r = (r * 1103515245 + 12345) & 0x7FFFFFFF;
                x.branch(r / 65536 % 4, r / 4096 % 3 == 0);
            }
            for (int p = 0; p < 5; p++) {
                holdsAsLong(x, p);
            }
        }
    }

    private static void holdsAsLong(Run x, int p) {
        int holds = x.holds(p);
        int guess = x.place(p, 4);
        int count = 0;
        x.save(0);
        while (count < 20 && x.place(p, 4) == guess) {
            x.branch(p, guess == 0);
            count++;
        }
        x.restore(0);
        CHECK.same("holds(" + p + ")", holds, count);
    }

    // ---- promise 25

    private static void worst() {
        CHECK.sentence("Promise 25", "Returns the place with the most wrong guesses so far", () -> {
            Run x = new Run();
            x.branch(25, true);
            CHECK.same("worst()", x.worst(), 25);
            x.go(0, true, 2);
            CHECK.same("worst()", x.worst(), 0);
            x.go(24, false, 50);
            CHECK.same("right guesses count nothing", x.worst(), 0);
            x.go(12, true, 20);
            x.go(12, false, 2);
            x.go(12, true, 1);
            CHECK.same("wrong guesses of all times", x.worst(), 12);
            x.undo();
            x.forget();
            x.branch(7, true);
            CHECK.same("worst() behind forget()", x.worst(), 7);
        });
        CHECK.sentence("Promise 25", "among several the smallest number", () -> {
            Run x = new Run();
            for (int p = 25; p >= 0; p--) {
                x.set(0, 6);
                x.branch(25, true);
                x.branch(p, true);
                CHECK.same("worst() of 25 and " + p, x.worst(), p);
            }
            Run y = new Run().go(3, true, 1).go(9, true, 1).go(4, true, 1);
            CHECK.same("worst() of three", y.worst(), 3);
        });
        CHECK.sentence("Promise 25", "NONE if there was no wrong guess", () -> {
            Run x = new Run();
            CHECK.same("worst() of nothing", x.worst(), Check.NONE);
            x.go(0, false, 3).go(25, false, 3);
            CHECK.same("worst() of right ones", x.worst(), Check.NONE);
            x.branch(25, true);
            CHECK.same("worst()", x.worst(), 25);
            x.undo();
            CHECK.same("worst() behind undo()", x.worst(), Check.NONE);
        });
    }
}
