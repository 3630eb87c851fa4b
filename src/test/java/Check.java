/** Counts answers that are not the ones that are due, and ends the program with exit code 1 if there were any. */
final class Check {
    static final Class<?> INDEX = IndexOutOfBoundsException.class;
    static final Class<?> ARGUMENT = IllegalArgumentException.class;
    static final Class<?> STATE = IllegalStateException.class;
    static final int NONE = BranchNotes.NONE;

    /** Numbers that are no desk and no save slot, and numbers that are no place. */
    static final int[] NOT_OF_TWO = {-1, 2, Integer.MIN_VALUE, Integer.MAX_VALUE};
    static final int[] NO_PLACE = {-1, 26, Integer.MIN_VALUE, Integer.MAX_VALUE};

    private final String name;
    private int checks;
    private int wrong;
    private int sentences;
    /** The sentence that is tested now; empty if the test is of no single one. */
    private String sentence = "";

    Check(String name) {
        this.name = name;
    }

    /** Tests one sentence of the document, given in its own words: at least one check must come of it. */
    void sentence(String where, String words, Runnable test) {
        sentence = " [" + where + ": " + words + "]";
        sentences++;
        int before = checks;
        try {
            test.run();
        } catch (RuntimeException | AssertionError e) {
            fail("the test ended with " + e);
        }
        if (checks == before) {
            fail("nothing was checked");
        }
        sentence = "";
    }

    void same(String call, long got, long due) {
        checks++;
        if (got != due) {
            fail(call + " answered " + got + ", due is " + due);
        }
    }

    void same(String call, boolean got, boolean due) {
        same(call, got ? 1 : 0, due ? 1 : 0);
    }

    void sameText(String call, String got, String due) {
        checks++;
        if (!got.equals(due)) {
            fail(call + ":\n" + got + "\ndue is\n" + due);
        }
    }

    /** The call throws an exception of exactly this class. */
    void refuses(Class<?> kind, String call, Runnable calling) {
        checks++;
        try {
            calling.run();
            fail(call + " threw nothing, due is " + kind.getSimpleName());
        } catch (RuntimeException e) {
            if (e.getClass() != kind) {
                fail(call + " threw " + e.getClass().getSimpleName() + ", due is " + kind.getSimpleName());
            }
        }
    }

    void fail(String what) {
        wrong++;
        System.out.println(name + sentence + ": " + what);
    }

    void end() {
        String tested = sentences > 0 ? sentences + " sentences, " : "";
        System.out.println(name + ": " + tested + checks + " checks, " + wrong + " wrong");
        if (wrong != 0) {
            System.exit(1);
        }
    }

    static void type(BranchNotes x, String text) {
        for (char c : text.toCharArray()) {
            x.append(c);
        }
    }

    static BranchNotes with(String text) {
        BranchNotes x = new BranchNotes();
        type(x, text);
        return x;
    }

    /** Every answer about the state, so that two states can be compared. */
    static String picture(BranchNotes x) {
        StringBuilder all = new StringBuilder();
        for (int what = 0; what < 10; what++) {
            all.append(x.about(what)).append(' ');
        }
        for (int d = 0; d < 2; d++) {
            pictureOfDesk(x, d, all);
        }
        for (int p = 0; p < 26; p++) {
            all.append("\nplace ").append(p).append(": ").append(x.share(p));
            for (int what = 0; what < 5; what++) {
                all.append(' ').append(x.place(p, what));
            }
        }
        return all.toString();
    }

    private static void pictureOfDesk(BranchNotes x, int d, StringBuilder all) {
        all.append("\ndesk ").append(d).append(':');
        for (int what = 0; what < 5; what++) {
            all.append(' ').append(x.desk(d, what));
        }
        for (int i = 0; i < 1 << x.about(7); i++) {
            for (int what = 0; what < 4; what++) {
                all.append(what == 0 ? ", " : " ").append(x.note(d, i, what));
            }
        }
        for (int p = 0; p < 26; p++) {
            all.append(' ').append(x.path(d, p)).append('/').append(x.noteOf(d, p));
        }
    }

    void samePicture(String call, BranchNotes x, String due) {
        sameText(call, picture(x), due);
    }
}
