import java.util.function.Consumer;

/** The edges of promises 28 and 29: save slots. */
public final class SlotEdgesTest {
    private static final Check CHECK = new Check("SlotEdgesTest");

    public static void main(String[] args) {
        save();
        restore();
        CHECK.end();
    }

    /** Something of everything that a slot has to keep; the last note of each desk is used, too. */
    private static void begin(Run x) {
        x.set(0, 6);
        x.set(1, 4);
        x.set(2, 9);
        for (int d = 0; d < 2; d++) {
            x.setDesk(d, 0, 1);
            x.setDesk(d, 1, 6);
        }
        x.setDesk(0, 2, 1);
        x.strengthen(1, 62, 7);
        x.type("(a+b-z+)4");
        x.play();
        x.go(25, true, 8);
        for (int d = 0; d < 2; d++) {
            CHECK.same("the last place of the last note", x.note(d, 63, 1), 25);
        }
    }

    private static void others(Run x) {
        x.set(0, 2);
        x.set(1, 1);
        x.set(2, 0);
        x.setDesk(0, 0, 1);
        x.setDesk(1, 1, 6);
        x.setDesk(1, 2, 1);
        x.go(7, true, 3);
    }

    private static void save() {
        CHECK.sentence("Promise 28", "Stores the present state in a save slot.", () -> {
            String saved = Look.state(SlotEdgesTest::begin);
            for (int slot = 0; slot < 2; slot++) {
                int asked = slot;
                CHECK.sameText("the state behind save(), other actions and restore()", Look.state(x -> {
                    begin(x);
                    x.save(asked);
                    others(x);
                    x.restore(asked);
                }), saved);
                CHECK.sameText("the state that was saved last", Look.state(x -> {
                    x.branch(3, true);
                    x.save(asked);
                    x.forget();
                    begin(x);
                    x.save(asked);
                    others(x);
                    x.restore(asked);
                }), saved);
                CHECK.sameText("save() changes no state", Look.state(x -> {
                    begin(x);
                    x.save(asked);
                }), saved);
            }
        });
        CHECK.sentence("Promise 28", "slot: 0 or 1", () -> {
            Run x = new Run();
            x.go(3, true, 2);
            CHECK.same("save(0)", x.save(0), 2);
            x.go(3, true, 3);
            CHECK.same("save(1)", x.save(1), 5);
            CHECK.same("restore(0)", x.restore(0), 2);
            CHECK.same("restore(1)", x.restore(1), 5);
            x.save(0);
            CHECK.same("restore(0)", x.restore(0), 5);
        });
        CHECK.sentence("Promise 28", "Returns the branches so far.", () -> {
            Run x = Run.with("(((a-)9(a-)9(a-)7)4)3");
            CHECK.same("save(0) of none", x.save(0), 0);
            x.branch(25, true);
            CHECK.same("save(0) of one", x.save(0), 1);
            x.play();
            x.play();
            CHECK.same("save(1) of 601", x.save(1), 601);
            x.forget();
            CHECK.same("save(1) behind forget()", x.save(1), 0);
        });
        CHECK.sentence("Promise 28", "Throws IndexOutOfBoundsException if there is no such save slot", () -> {
            Run x = new Run();
            for (int slot : Check.NOT_OF_TWO) {
                CHECK.refuses(Check.INDEX, "save(" + slot + ")", () -> x.save(slot));
            }
            CHECK.refuses(Check.STATE, "restore(0)", () -> x.restore(0));
            CHECK.refuses(Check.STATE, "restore(1)", () -> x.restore(1));
        });
        CHECK.sentence("Exceptions", "a save slot is not 0 or 1", () -> {
            Run x = new Run();
            x.save(0);
            x.save(1);
            for (int slot : Check.NOT_OF_TWO) {
                CHECK.refuses(Check.INDEX, "save(" + slot + ")", () -> x.save(slot));
                CHECK.refuses(Check.INDEX, "restore(" + slot + ")", () -> x.restore(slot));
            }
        });
    }

    private static void restore() {
        CHECK.sentence("Promise 29", "Replaces the state by the one in a save slot, and forgets all remembered states.",
                SlotEdgesTest::forgetsRemembered);
        CHECK.sentence("Promise 29", "The save slot keeps it.", () -> {
            Consumer<Run> story = x -> {
                begin(x);
                x.save(0);
            };
            String saved = Look.state(story);
            CHECK.sameText("restore() again, behind other actions", Look.state(x -> {
                story.accept(x);
                others(x);
                x.restore(0);
                others(x);
                x.undo();
                x.play();
                x.save(1);
                x.restore(0);
            }), saved);
        });
        CHECK.sentence("Promise 29", "Returns the branches so far, then.", () -> {
            Run x = new Run();
            x.save(0);
            x.go(3, true, 7);
            x.save(1);
            x.go(3, true, 2);
            CHECK.same("restore(0)", x.restore(0), 0);
            CHECK.same("restore(1)", x.restore(1), 7);
            CHECK.same("restore(1) again", x.restore(1), 7);
        });
        CHECK.sentence("Promise 29", "Throws IndexOutOfBoundsException if there is no such save slot", () -> {
            Run x = new Run();
            for (int slot : Check.NOT_OF_TWO) {
                CHECK.refuses(Check.INDEX, "restore(" + slot + ")", () -> x.restore(slot));
            }
        });
        CHECK.sentence("Promise 29", "Throws IllegalStateException if nothing has been saved in it", () -> {
            for (int slot = 0; slot < 2; slot++) {
                int full = slot;
                int empty = 1 - slot;
                Run x = new Run();
                x.branch(3, true);
                CHECK.refuses(Check.STATE, "restore(" + empty + ")", () -> x.restore(empty));
                CHECK.refuses(Check.STATE, "restore(" + full + ")", () -> x.restore(full));
                x.save(full);
                CHECK.refuses(Check.STATE, "restore(" + empty + ") behind save(" + full + ")", () -> x.restore(empty));
                CHECK.same("restore(" + full + ")", x.restore(full), 1);
                CHECK.refuses(Check.STATE, "restore(" + empty + ") again", () -> x.restore(empty));
                x.save(empty);
                CHECK.same("restore(" + empty + ") at last", x.restore(empty), 1);
            }
        });
    }

    private static void forgetsRemembered() {
        for (int actions : new int[] {0, 1, 5, 14, 20}) {
            Run x = new Run();
            x.go(3, true, 2);
            x.save(0);
            x.go(4, true, actions);
            x.restore(0);
            CHECK.same("branches so far", x.about(0), 2);
            CHECK.refuses(Check.STATE, "undo() behind " + actions + " actions and restore()", x::undo);
            x.go(5, false, 16);
            for (int due = 13; due >= 0; due--) {
                CHECK.same("undo() of new actions", x.undo(), due);
                CHECK.same("branches so far", x.about(0), due + 4);
            }
            CHECK.refuses(Check.STATE, "undo() of no more", x::undo);
        }
        Run y = new Run();
        y.branch(3, true);
        y.save(1);
        CHECK.same("save() forgets none", y.undo(), 0);
    }
}
