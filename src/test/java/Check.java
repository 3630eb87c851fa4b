/** Counts answers that are not the ones that are due, and ends the program with exit code 1 if there were any. */
final class Check {
    static final Class<?> INDEX = IndexOutOfBoundsException.class;
    static final Class<?> ARGUMENT = IllegalArgumentException.class;
    static final Class<?> STATE = IllegalStateException.class;
    static final int NONE = BranchNotes.NONE;

    /** Numbers that are no desk and no save slot, and numbers that are no place. */
    static final int[] NOT_OF_TWO = {-1, 2, Integer.MIN_VALUE, Integer.MAX_VALUE};
    static final int[] NO_PLACE = {-1, 26, Integer.MIN_VALUE, Integer.MAX_VALUE};

    private final String name;
    private int checks;
    private int wrong;
    private int sentences;
    /** The sentence that is tested now; empty if the test is of no single one. */
    private String sentence = "";

    Check(String name) {
        this.name = name;
    }

    /** Tests one sentence of the document, given in its own words: at least one check must come of it. */
    void sentence(String where, String words, Runnable test) {
        sentence = " [" + where + ": " + words + "]";
        sentences++;
        int before = checks;
        try {
            test.run();
        } catch (RuntimeException | AssertionError e) {
            fail("the test ended with " + e);
        }
        if (checks == before) {
            fail("nothing was checked");
        }
        sentence = "";
    }

    void same(String call, long got, long due) {
        checks++;
        if (got != due) {
            fail(call + " answered " + got + ", due is " + due);
        }
    }

    void same(String call, boolean got, boolean due) {
        same(call, got ? 1 : 0, due ? 1 : 0);
    }

    void sameText(String call, String got, String due) {
        checks++;
        if (!got.equals(due)) {
            fail(call + ":\n" + got + "\ndue is\n" + due);
        }
    }

    /** The call throws an exception of exactly this class. */
    void refuses(Class<?> kind, String call, Runnable calling) {
        checks++;
        try {
            calling.run();
            fail(call + " threw nothing, due is " + kind.getSimpleName());
        } catch (RuntimeException e) {
            if (e.getClass() != kind) {
                fail(call + " threw " + e.getClass().getSimpleName() + ", due is " + kind.getSimpleName());
            }
        }
    }

    void fail(String what) {
        wrong++;
        System.out.println(name + sentence + ": " + what);
    }

    void end() {
        String tested = sentences > 0 ? sentences + " sentences, " : "";
        System.out.println(name + ": " + tested + checks + " checks, " + wrong + " wrong");
        if (wrong != 0) {
            System.exit(1);
        }
    }

    /** The state behind all calls of the object so far is the one of this picture. */
    void samePicture(String call, Run x, String due) {
        sameText(call, x.picture(), due);
    }
}
