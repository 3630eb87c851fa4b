import java.util.ArrayList;
import java.util.List;
import java.util.function.Consumer;

/** "Exceptions" in "Terms": which one comes first, and that a refused call changes nothing. */
public final class RefusalsTest {
    private static final Check CHECK = new Check("RefusalsTest");
    private static final int MIN = Integer.MIN_VALUE;
    private static final int MAX = Integer.MAX_VALUE;

    /** A call that is due to be refused. */
    private record Refused(Class<?> kind, String name, Consumer<Run> call) {
    }

    public static void main(String[] args) {
        CHECK.sentence("Exceptions", "If several exceptions apply to a call, the one that its description names first is"
                + " thrown.", RefusalsTest::firstNamed);
        CHECK.sentence("Exceptions", "A call that throws an exception changes nothing.", () -> {
            List<Refused> always = new ArrayList<>();
            refusedQuestions(always);
            refusedActions(always);
            refusedForeseeing(always);
            changeNothing(RefusalsTest::fewRemembered, always);
            changeNothing(RefusalsTest::manyRemembered, always);
        });
        CHECK.sentence("Exceptions", "IllegalStateException means what the method says.", () -> {
            changeNothing(RefusalsTest::fullText, full());
            changeNothing(RefusalsTest::noTrace, of(Check.STATE, "play() of no trace", Run::play));
            changeNothing(RefusalsTest::tooManyBranches, of(Check.STATE, "play() of 301", Run::play));
            changeNothing(x -> { }, of(Check.STATE, "undo() of a new object", Run::undo));
            changeNothing(RefusalsTest::allTakenBack, of(Check.STATE, "undo() behind the last", Run::undo));
            changeNothing(x -> {
                manyRemembered(x);
                x.restore(0);
            }, of(Check.STATE, "undo() behind restore()", Run::undo));
            changeNothing(RefusalsTest::fewRemembered, of(Check.STATE, "restore(0)", x -> x.restore(0)));
            changeNothing(RefusalsTest::fewRemembered, of(Check.STATE, "restore(1)", x -> x.restore(1)));
            changeNothing(x -> {
                fewRemembered(x);
                x.save(0);
            }, of(Check.STATE, "restore(1) behind save(0)", x -> x.restore(1)));
        });
        CHECK.end();
    }

    // ---- stories

    private static void fewRemembered(Run x) {
        x.type("(a+b-q+)5z-");
        x.strengthen(1, 15, 3);
        x.play();
        x.branch(25, true);
    }

    /** As many states as can be remembered, each another one, and both slots full. */
    private static void manyRemembered(Run x) {
        x.set(0, 5);
        x.setDesk(0, 2, 1);
        x.save(1);
        x.type("(a+b-q+)5z-");
        for (int k = 0; k < 14; k++) {
            x.branch(k, k % 3 == 0);
        }
        x.save(0);
        x.play();
        x.strengthen(0, 31, 0);
    }

    private static void fullText(Run x) {
        fewRemembered(x);
        x.clearText();
        x.type("a+b-".repeat(20));
    }

    private static void noTrace(Run x) {
        manyRemembered(x);
        x.type("(a+");
    }

    private static void tooManyBranches(Run x) {
        manyRemembered(x);
        x.clearText();
        x.type("(((a-)9(a-)9(a-)7)4)3z+");
    }

    private static void allTakenBack(Run x) {
        manyRemembered(x);
        for (int k = 0; k < 14; k++) {
            x.undo();
        }
    }

    // ---- refused calls

    private static List<Refused> of(Class<?> kind, String name, Consumer<Run> call) {
        List<Refused> all = new ArrayList<>();
        all.add(new Refused(kind, name, call));
        return all;
    }

    private static List<Refused> full() {
        List<Refused> all = of(Check.STATE, "append(97)", x -> x.append('a'));
        add(all, Check.STATE, "append(0)", x -> x.append(0));
        add(all, Check.STATE, "append(255)", x -> x.append(255));
        add(all, Check.ARGUMENT, "append(256)", x -> x.append(256));
        add(all, Check.ARGUMENT, "append(-1)", x -> x.append(-1));
        return all;
    }

    private static void add(List<Refused> all, Class<?> kind, String name, Consumer<Run> call) {
        all.add(new Refused(kind, name, call));
    }

    private static void refusedQuestions(List<Refused> all) {
        for (int c : new int[] {-1, 256, MIN, MAX}) {
            add(all, Check.ARGUMENT, "append(" + c + ")", x -> x.append(c));
        }
        for (int what : new int[] {-1, 10, MIN, MAX}) {
            add(all, Check.ARGUMENT, "about(" + what + ")", x -> x.about(what));
        }
        for (int what : new int[] {-1, 5, MIN, MAX}) {
            add(all, Check.ARGUMENT, "desk(0, " + what + ")", x -> x.desk(0, what));
            add(all, Check.ARGUMENT, "note(0, 0, " + what + ")", x -> x.note(0, 0, what));
            add(all, Check.ARGUMENT, "place(0, " + what + ")", x -> x.place(0, what));
        }
        for (int i : new int[] {-1, 64, MIN, MAX}) {
            add(all, Check.INDEX, "note(0, " + i + ", 0)", x -> x.note(0, i, 0));
        }
        for (int d : Check.NOT_OF_TWO) {
            add(all, Check.INDEX, "desk(" + d + ", 0)", x -> x.desk(d, 0));
            add(all, Check.INDEX, "note(" + d + ", 0, 0)", x -> x.note(d, 0, 0));
            add(all, Check.INDEX, "path(" + d + ", 0)", x -> x.path(d, 0));
            add(all, Check.INDEX, "noteOf(" + d + ", 0)", x -> x.noteOf(d, 0));
        }
        for (int p : Check.NO_PLACE) {
            add(all, Check.INDEX, "place(" + p + ", 0)", x -> x.place(p, 0));
            add(all, Check.INDEX, "path(1, " + p + ")", x -> x.path(1, p));
            add(all, Check.INDEX, "noteOf(1, " + p + ")", x -> x.noteOf(1, p));
            add(all, Check.INDEX, "share(" + p + ")", x -> x.share(p));
        }
    }

    private static void refusedActions(List<Refused> all) {
        int[] most = {4, 6, 1};
        for (int what = 0; what < 3; what++) {
            int asked = what;
            for (int v : new int[] {-1, most[what] + 1, MIN, MAX}) {
                add(all, Check.ARGUMENT, "setDesk(0, " + what + ", " + v + ")", x -> x.setDesk(0, asked, v));
                add(all, Check.ARGUMENT, "setDesk(1, " + what + ", " + v + ")", x -> x.setDesk(1, asked, v));
            }
            for (int d : Check.NOT_OF_TWO) {
                add(all, Check.INDEX, "setDesk(" + d + ", " + what + ", 0)", x -> x.setDesk(d, asked, 0));
            }
        }
        int[] below = {1, 0, -1};
        int[] above = {7, 5, 10};
        for (int what = 0; what < 3; what++) {
            int asked = what;
            for (int v : new int[] {below[what], above[what], MIN, MAX}) {
                add(all, Check.ARGUMENT, "set(" + what + ", " + v + ")", x -> x.set(asked, v));
            }
        }
        for (int what : new int[] {-1, 3, MIN, MAX}) {
            add(all, Check.ARGUMENT, "setDesk(0, " + what + ", 0)", x -> x.setDesk(0, what, 0));
            add(all, Check.ARGUMENT, "set(" + what + ", 2)", x -> x.set(what, 2));
        }
        for (int v : new int[] {-1, 4, MIN, MAX}) {
            add(all, Check.ARGUMENT, "strengthen(0, 0, " + v + ")", x -> x.strengthen(0, 0, v));
        }
        for (int i : new int[] {-1, 32, MIN, MAX}) {
            add(all, Check.INDEX, "strengthen(0, " + i + ", 0)", x -> x.strengthen(0, i, 0));
        }
        for (int d : Check.NOT_OF_TWO) {
            add(all, Check.INDEX, "strengthen(" + d + ", 0, 0)", x -> x.strengthen(d, 0, 0));
        }
        for (int p : Check.NO_PLACE) {
            add(all, Check.INDEX, "branch(" + p + ", true)", x -> x.branch(p, true));
            add(all, Check.INDEX, "branch(" + p + ", false)", x -> x.branch(p, false));
        }
    }

    private static void refusedForeseeing(List<Refused> all) {
        for (int d : Check.NOT_OF_TWO) {
            add(all, Check.INDEX, "bestMixing(" + d + ")", x -> x.bestMixing(d));
            add(all, Check.INDEX, "bestLength(" + d + ")", x -> x.bestLength(d));
            add(all, Check.INDEX, "sharing(" + d + ", 0)", x -> x.sharing(d, 0));
            add(all, Check.INDEX, "save(" + d + ")", x -> x.save(d));
            add(all, Check.INDEX, "restore(" + d + ")", x -> x.restore(d));
        }
        for (int p : Check.NO_PLACE) {
            add(all, Check.INDEX, "sharing(0, " + p + ")", x -> x.sharing(0, p));
            add(all, Check.INDEX, "holds(" + p + ")", x -> x.holds(p));
        }
        for (int n : new int[] {0, 4, -1, MIN, MAX}) {
            add(all, Check.ARGUMENT, "runScript(" + n + ", 40000)", x -> x.runScript(n, 40000));
        }
        for (long script : new long[] {-1, 100000, 4000040000L, Long.MIN_VALUE, Long.MAX_VALUE}) {
            add(all, Check.ARGUMENT, "runScript(1, " + script + ")", x -> x.runScript(1, script));
        }
        for (int m : new int[] {0, 301, -1, MIN, MAX}) {
            add(all, Check.ARGUMENT, "simulate(1, " + m + ")", x -> x.simulate(1, m));
        }
    }

    private static void changeNothing(Consumer<Run> story, List<Refused> all) {
        String before = Look.whole(story);
        for (Refused refused : all) {
            CHECK.sameText("behind the refused call " + refused.name, Look.whole(x -> {
                story.accept(x);
                CHECK.refuses(refused.kind, refused.name, () -> refused.call.accept(x));
            }), before);
        }
    }

    // ---- which exception comes first

    private static void firstNamed() {
        for (int c : new int[] {-1, 256, MIN, MAX}) {
            Run x = Run.with("a+".repeat(40));
            CHECK.refuses(Check.ARGUMENT, "append(" + c + ") to 80 characters", () -> x.append(c));
        }
        Run x = Run.with("a");
        for (int bad : new int[] {-1, 99, MIN, MAX}) {
            for (int no : Check.NOT_OF_TWO) {
                CHECK.refuses(Check.INDEX, "desk(" + no + ", " + bad + ")", () -> x.desk(no, bad));
                CHECK.refuses(Check.INDEX, "note(" + no + ", 0, " + bad + ")", () -> x.note(no, 0, bad));
                CHECK.refuses(Check.INDEX, "note(" + no + ", " + bad + ", " + bad + ")", () -> x.note(no, bad, bad));
                CHECK.refuses(Check.INDEX, "setDesk(" + no + ", 0, " + bad + ")", () -> x.setDesk(no, 0, bad));
                CHECK.refuses(Check.INDEX, "setDesk(" + no + ", " + bad + ", 0)", () -> x.setDesk(no, bad, 0));
                CHECK.refuses(Check.INDEX, "strengthen(" + no + ", 0, " + bad + ")", () -> x.strengthen(no, 0, bad));
            }
            CHECK.refuses(Check.INDEX, "note(0, 16, " + bad + ")", () -> x.note(0, 16, bad));
            CHECK.refuses(Check.INDEX, "note(1, " + bad + ", 4)", () -> x.note(1, bad, 4));
            CHECK.refuses(Check.INDEX, "place(26, " + bad + ")", () -> x.place(26, bad));
            CHECK.refuses(Check.INDEX, "place(" + bad + ", 5)", () -> x.place(bad, 5));
            CHECK.refuses(Check.INDEX, "strengthen(0, 16, " + bad + ")", () -> x.strengthen(0, 16, bad));
            CHECK.refuses(Check.INDEX, "strengthen(1, " + bad + ", 4)", () -> x.strengthen(1, bad, 4));
        }
        for (int no : Check.NOT_OF_TWO) {
            CHECK.refuses(Check.INDEX, "restore(" + no + "), nothing saved", () -> x.restore(no));
            CHECK.refuses(Check.INDEX, "bestMixing(" + no + ") of no trace", () -> x.bestMixing(no));
            CHECK.refuses(Check.INDEX, "bestLength(" + no + ") of no trace", () -> x.bestLength(no));
        }
    }
}
