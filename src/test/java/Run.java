/**
 * An object that counts its calls: behind the 512th call its answers are free, so a test that asks on
 * shows nothing. The edge tests use objects through this class alone.
 */
final class Run {
    static final int MOST_CALLS = 512;

    private final BranchNotes notes = new BranchNotes();
    private int calls;

    private BranchNotes counted() {
        calls++;
        if (calls > MOST_CALLS) {
            throw new AssertionError("a test makes more than " + MOST_CALLS + " calls of one object");
        }
        return notes;
    }

    int callsLeft() {
        return MOST_CALLS - calls;
    }

    static Run with(String text) {
        return new Run().type(text);
    }

    Run type(String text) {
        for (char c : text.toCharArray()) {
            append(c);
        }
        return this;
    }

    /** Many branches at one place. */
    Run go(int p, boolean taken, int times) {
        for (int k = 0; k < times; k++) {
            branch(p, taken);
        }
        return this;
    }

    int append(int c) {
        return counted().append(c);
    }

    int clearText() {
        return counted().clearText();
    }

    int errorPosition() {
        return counted().errorPosition();
    }

    int branches() {
        return counted().branches();
    }

    int about(int what) {
        return counted().about(what);
    }

    int desk(int d, int what) {
        return counted().desk(d, what);
    }

    int note(int d, int i, int what) {
        return counted().note(d, i, what);
    }

    int place(int p, int what) {
        return counted().place(p, what);
    }

    int path(int d, int p) {
        return counted().path(d, p);
    }

    int noteOf(int d, int p) {
        return counted().noteOf(d, p);
    }

    int share(int p) {
        return counted().share(p);
    }

    int setDesk(int d, int what, int v) {
        return counted().setDesk(d, what, v);
    }

    int set(int what, int v) {
        return counted().set(what, v);
    }

    int forget() {
        return counted().forget();
    }

    int strengthen(int d, int i, int v) {
        return counted().strengthen(d, i, v);
    }

    boolean branch(int p, boolean taken) {
        return counted().branch(p, taken);
    }

    int play() {
        return counted().play();
    }

    int undo() {
        return counted().undo();
    }

    int wouldBring() {
        return counted().wouldBring();
    }

    int bestMixing(int d) {
        return counted().bestMixing(d);
    }

    int bestLength(int d) {
        return counted().bestLength(d);
    }

    int sharing(int d, int p) {
        return counted().sharing(d, p);
    }

    int holds(int p) {
        return counted().holds(p);
    }

    int worst() {
        return counted().worst();
    }

    int runScript(int n, long script) {
        return counted().runScript(n, script);
    }

    int simulate(long seed, int m) {
        return counted().simulate(seed, m);
    }

    int save(int slot) {
        return counted().save(slot);
    }

    int restore(int slot) {
        return counted().restore(slot);
    }
}
