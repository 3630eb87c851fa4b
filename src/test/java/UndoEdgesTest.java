import java.util.ArrayList;
import java.util.List;
import java.util.function.Consumer;

/** The edges of "Actions and undo" in "Terms", and promise 19. */
public final class UndoEdgesTest {
    private static final Check CHECK = new Check("UndoEdgesTest");

    public static void main(String[] args) {
        actions();
        remembered();
        whatIsNoAction();
        CHECK.end();
    }

    /** Something of everything that an action could change; the last note of each desk is used, too. */
    private static void begin(Run x) {
        x.set(0, 6);
        x.set(1, 3);
        for (int d = 0; d < 2; d++) {
            x.setDesk(d, 0, 1);
            x.setDesk(d, 1, 6);
        }
        x.setDesk(0, 2, 1);
        x.strengthen(1, 17, 5);
        x.type("(a+b-q+)3");
        x.play();
        x.go(25, true, 8);
        for (int d = 0; d < 2; d++) {
            CHECK.same("the last place of the last note", x.note(d, 63, 1), 25);
        }
    }

    private static List<Consumer<Run>> allActions() {
        List<Consumer<Run>> all = new ArrayList<>();
        all.add(x -> x.setDesk(0, 0, 4));
        all.add(x -> x.setDesk(1, 1, 6));
        all.add(x -> x.setDesk(1, 2, 1));
        all.add(x -> x.set(0, 2));
        all.add(x -> x.set(0, 5));
        all.add(x -> x.set(0, 6));
        all.add(x -> x.set(1, 4));
        all.add(x -> x.set(2, 9));
        all.add(Run::forget);
        all.add(x -> x.strengthen(0, 63, 0));
        all.add(x -> x.strengthen(1, 0, 5));
        all.add(x -> x.branch(0, true));
        all.add(x -> x.branch(0, false));
        all.add(Run::play);
        return all;
    }

    private static void actions() {
        CHECK.sentence("Actions", "Before each action, the state is remembered.", () -> {
            String before = Look.state(UndoEdgesTest::begin);
            for (Consumer<Run> action : allActions()) {
                String after = Look.state(x -> {
                    begin(x);
                    action.accept(x);
                });
                CHECK.same("the action changes something", !after.equals(before), true);
                CHECK.sameText("the state behind undo()", Look.state(x -> {
                    begin(x);
                    action.accept(x);
                    x.undo();
                }), before);
            }
        });
        CHECK.sentence("Actions", "Each call of one of them that does not throw an exception is an action, also if"
                + " nothing becomes different", UndoEdgesTest::withoutADifference);
        CHECK.sentence("Actions", "(undo is none)", () -> {
            Run x = new Run().go(3, true, 3);
            for (int due = 2; due >= 0; due--) {
                CHECK.same("undo()", x.undo(), due);
                CHECK.same("branches so far", x.about(0), due);
            }
            CHECK.refuses(Check.STATE, "undo()", x::undo);
        });
        CHECK.sentence("Actions", "the state, which consists of everything but the text and the save slots",
                UndoEdgesTest::textAndSlotsStay);
    }

    private static void withoutADifference() {
        List<Consumer<Run>> same = new ArrayList<>();
        for (int d = 0; d < 2; d++) {
            int desk = d;
            same.add(x -> x.setDesk(desk, 0, x.desk(desk, 0)));
            same.add(x -> x.setDesk(desk, 1, x.desk(desk, 1)));
            same.add(x -> x.setDesk(desk, 2, x.desk(desk, 2)));
            same.add(x -> x.strengthen(desk, 15, 1));
        }
        same.add(x -> x.set(0, 4));
        same.add(x -> x.set(1, 2));
        same.add(x -> x.set(2, 2));
        same.add(Run::forget);
        same.add(Run::play);
        String first = Look.state(x -> { });
        for (Consumer<Run> action : same) {
            CHECK.sameText("nothing becomes different", Look.state(action), first);
            Run x = new Run();
            action.accept(x);
            action.accept(x);
            CHECK.same("undo() of the second", x.undo(), 1);
            CHECK.same("undo() of the first", x.undo(), 0);
            CHECK.refuses(Check.STATE, "undo()", x::undo);
        }
    }

    private static void textAndSlotsStay() {
        Run x = new Run();
        x.branch(3, true);
        x.type("a+");
        x.save(0);
        x.branch(3, true);
        x.save(1);
        x.type("b-");
        CHECK.same("undo()", x.undo(), 1);
        CHECK.same("undo()", x.undo(), 0);
        CHECK.same("the text", x.branches(), 2);
        CHECK.same("the slot 1", x.restore(1), 2);
        CHECK.same("the slot 0", x.restore(0), 1);
        CHECK.same("the text", x.clearText(), 4);
    }

    private static void remembered() {
        CHECK.sentence("Actions", "At most 14 states are remembered; when one more is remembered, the oldest one is"
                + " forgotten.", () -> {
            for (int actions : new int[] {0, 1, 2, 12, 13, 14, 15, 16, 27, 28, 29, 42, 43, 100}) {
                manyActions(actions);
            }
            thereAndBack();
        });
        CHECK.sentence("Promise 19", "Returns how many states are still remembered.", () -> {
            Run x = new Run().go(3, true, 20);
            for (int due = 13; due >= 0; due--) {
                CHECK.same("undo()", x.undo(), due);
            }
        });
        CHECK.sentence("Promise 19", "Takes back the last action that is remembered.", () -> {
            Consumer<Run> one = x -> {
                begin(x);
                x.branch(4, false);
            };
            CHECK.sameText("the state behind one undo() of two actions", Look.state(x -> {
                one.accept(x);
                x.strengthen(0, 4, 1);
                x.undo();
            }), Look.state(one));
        });
        CHECK.sentence("Promise 19", "Throws IllegalStateException if none is remembered", () -> {
            Run x = new Run();
            CHECK.refuses(Check.STATE, "undo() of a new object", x::undo);
            x.branch(3, true);
            x.undo();
            CHECK.refuses(Check.STATE, "undo() behind the last one", x::undo);
            CHECK.refuses(Check.STATE, "undo() again", x::undo);
            x.branch(3, true);
            CHECK.same("an action behind it is remembered", x.undo(), 0);
        });
    }

    /** The branches go from place to place, so that each state that comes back can be told from the others. */
    private static void manyActions(int actions) {
        Run x = new Run();
        for (int k = 0; k < actions; k++) {
            x.branch(k % 26, k % 3 == 0);
        }
        int taken = Math.min(actions, 14);
        for (int k = 1; k <= taken; k++) {
            CHECK.same("undo() " + k + " of " + actions, x.undo(), taken - k);
            int left = actions - k;
            CHECK.same("branches so far", x.about(0), left);
            CHECK.same("branches at the place that was taken back", x.place(left % 26, 0), left / 26);
        }
        CHECK.refuses(Check.STATE, "one more undo() of " + actions, x::undo);
        CHECK.same("branches so far", x.about(0), actions - taken);
    }

    private static void thereAndBack() {
        Run x = new Run().go(3, true, 14);
        for (int due = 13; due >= 9; due--) {
            CHECK.same("undo()", x.undo(), due);
        }
        x.go(4, true, 5);
        x.go(5, true, 2);
        CHECK.same("branches so far", x.about(0), 16);
        for (int due = 13; due >= 0; due--) {
            CHECK.same("undo()", x.undo(), due);
            CHECK.same("branches so far", x.about(0), due + 2);
            CHECK.same("at the place 3", x.place(3, 0), Math.min(due + 2, 9));
            CHECK.same("at the place 4", x.place(4, 0), Math.max(0, Math.min(due + 2 - 9, 5)));
        }
        CHECK.refuses(Check.STATE, "undo()", x::undo);
    }

    private static void whatIsNoAction() {
        CHECK.sentence("Actions", "restore is not an action.", () -> {
            Run x = new Run();
            x.save(0);
            x.restore(0);
            CHECK.refuses(Check.STATE, "undo() behind restore()", x::undo);
            x.branch(3, true);
            x.restore(0);
            CHECK.refuses(Check.STATE, "undo() behind restore()", x::undo);
        });
        CHECK.sentence("Actions", "The methods in the section \"actions\" change the state", () -> {
            Run x = Run.with("a+b-");
            x.branch(3, true);
            x.append('a');
            x.clearText();
            x.type("(a-)3");
            x.errorPosition();
            x.branches();
            x.save(0);
            x.save(1);
            askAll(x);
            CHECK.same("undo(): no other call is an action", x.undo(), 0);
            CHECK.same("branches so far", x.about(0), 0);
        });
    }

    private static void askAll(Run x) {
        x.about(0);
        x.desk(0, 0);
        x.note(0, 0, 0);
        x.place(0, 0);
        x.path(0, 0);
        x.noteOf(0, 0);
        x.share(0);
        x.wouldBring();
        x.bestMixing(0);
        x.bestLength(0);
        x.sharing(0, 0);
        x.holds(0);
        x.worst();
        x.runScript(1, 40000);
        x.simulate(0, 1);
    }
}
