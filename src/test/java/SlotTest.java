/** Promises 28 and 29: save slots. */
public final class SlotTest {
    private static final Check CHECK = new Check("SlotTest");
    private static final int[] NO_SLOT = {-1, 2, Integer.MIN_VALUE, Integer.MAX_VALUE};

    public static void main(String[] args) {
        testSave();
        testRestore();
        testUndoAround();
        testSettingsToo();
        testRefusals();
        CHECK.end();
    }

    private static void testSave() {
        Run x = new Run();
        CHECK.same("save(0)", x.save(0), 0);
        x.branch(3, true);
        x.branch(3, true);
        CHECK.same("save(1)", x.save(1), 2);
        CHECK.same("save() is no action", x.undo(), 1);
        CHECK.same("save(1) again", x.save(1), 1);
        x.undo();
        CHECK.same("restore(1)", x.restore(1), 1);
        CHECK.same("restore(0)", x.restore(0), 0);
    }

    private static void testRestore() {
        Run x = Run.with("(a+b-z+)4");
        x.play();
        x.strengthen(1, 3, 3);
        String first = x.picture();
        CHECK.same("save(0)", x.save(0), 12);
        x.branch(9, true);
        String second = x.picture();
        CHECK.same("save(1)", x.save(1), 13);
        x.forget();
        CHECK.same("restore(0)", x.restore(0), 12);
        CHECK.samePicture("restore(0)", x, first);
        x.branch(4, true);
        x.play();
        CHECK.same("restore(0) again: the slot keeps it", x.restore(0), 12);
        CHECK.samePicture("restore(0) again", x, first);
        CHECK.same("restore(1)", x.restore(1), 13);
        CHECK.samePicture("restore(1)", x, second);
        x.save(0);
        x.branch(1, true);
        x.restore(0);
        CHECK.samePicture("a slot that was saved to again", x, second);
    }

    private static void testUndoAround() {
        Run x = new Run();
        x.branch(3, true);
        x.branch(3, true);
        x.save(0);
        x.branch(3, true);
        CHECK.same("restore(0)", x.restore(0), 2);
        CHECK.refuses(Check.STATE, "undo(): restore() forgets all", x::undo);
        String restored = x.picture();
        for (int k = 0; k < 20; k++) {
            x.branch(k, true);
        }
        x.restore(0);
        x.branch(5, false);
        CHECK.same("undo() to the restored state", x.undo(), 0);
        CHECK.samePicture("undo()", x, restored);
        CHECK.refuses(Check.STATE, "undo(): no more", x::undo);
        x.branch(5, false);
        CHECK.refuses(Check.STATE, "restore(1): nothing is there", () -> x.restore(1));
        CHECK.same("a refused restore() forgets nothing", x.undo(), 0);
        x.save(1);
        x.branch(6, true);
        x.undo();
        CHECK.same("undo() lets the slots stay", x.restore(1), 2);
    }

    private static void testSettingsToo() {
        Run x = new Run();
        x.set(0, 6);
        x.set(1, 4);
        x.setDesk(0, 2, 1);
        x.setDesk(0, 1, 3);
        x.branch(25, true);
        x.strengthen(1, 63, 7);
        String before = x.picture();
        x.save(1);
        x.set(0, 2);
        x.set(1, 1);
        x.setDesk(0, 2, 0);
        CHECK.same("restore(1)", x.restore(1), 1);
        CHECK.samePicture("restore(1)", x, before);
    }

    private static void testRefusals() {
        Run x = new Run();
        for (int slot : NO_SLOT) {
            CHECK.refuses(Check.INDEX, "save(" + slot + ")", () -> x.save(slot));
            CHECK.refuses(Check.INDEX, "restore(" + slot + ")", () -> x.restore(slot));
        }
        CHECK.refuses(Check.STATE, "restore(0)", () -> x.restore(0));
        CHECK.refuses(Check.STATE, "restore(1)", () -> x.restore(1));
        x.save(0);
        CHECK.refuses(Check.STATE, "restore(1): only the slot 0 was saved to", () -> x.restore(1));
        CHECK.same("restore(0)", x.restore(0), 0);
    }
}
