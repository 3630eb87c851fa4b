import java.util.ArrayList;
import java.util.List;
import java.util.function.ToIntFunction;

/**
 * An object that counts its calls: behind the 512th call its answers are free, so a test that asks on
 * shows nothing. Tests use objects through this class, which refuses to go on. It keeps the calls, so
 * that other objects can be made that have gone through the same.
 */
final class Run {
    static final int MOST_CALLS = 512;

    private final BranchNotes notes = new BranchNotes();
    private final List<ToIntFunction<BranchNotes>> calls = new ArrayList<>();

    private int call(ToIntFunction<BranchNotes> call) {
        if (callsLeft() == 0) {
            throw new AssertionError("a test makes more than " + MOST_CALLS + " calls of one object");
        }
        calls.add(call);
        return call.applyAsInt(notes);
    }

    int callsLeft() {
        return MOST_CALLS - calls.size();
    }

    /** Makes the same calls of another object, also those that were refused. */
    private void repeatOn(Run other) {
        for (ToIntFunction<BranchNotes> call : calls) {
            try {
                other.call(call);
            } catch (RuntimeException e) {
                // It is refused to this object, too; the pictures tell if it is not.
            }
        }
    }

    /** All numbers of the state, found out with other objects: it costs none of this one's calls. */
    String picture() {
        return Look.state(this::repeatOn);
    }

    static Run with(String text) {
        return new Run().type(text);
    }

    Run type(String text) {
        for (char c : text.toCharArray()) {
            append(c);
        }
        return this;
    }

    /** Many branches at one place. */
    Run go(int p, boolean taken, int times) {
        for (int k = 0; k < times; k++) {
            branch(p, taken);
        }
        return this;
    }

    int append(int c) {
        return call(x -> x.append(c));
    }

    int clearText() {
        return call(BranchNotes::clearText);
    }

    int errorPosition() {
        return call(BranchNotes::errorPosition);
    }

    int branches() {
        return call(BranchNotes::branches);
    }

    int about(int what) {
        return call(x -> x.about(what));
    }

    int desk(int d, int what) {
        return call(x -> x.desk(d, what));
    }

    int note(int d, int i, int what) {
        return call(x -> x.note(d, i, what));
    }

    int place(int p, int what) {
        return call(x -> x.place(p, what));
    }

    int path(int d, int p) {
        return call(x -> x.path(d, p));
    }

    int noteOf(int d, int p) {
        return call(x -> x.noteOf(d, p));
    }

    int share(int p) {
        return call(x -> x.share(p));
    }

    int setDesk(int d, int what, int v) {
        return call(x -> x.setDesk(d, what, v));
    }

    int set(int what, int v) {
        return call(x -> x.set(what, v));
    }

    int forget() {
        return call(BranchNotes::forget);
    }

    int strengthen(int d, int i, int v) {
        return call(x -> x.strengthen(d, i, v));
    }

    boolean branch(int p, boolean taken) {
        return call(x -> x.branch(p, taken) ? 1 : 0) == 1;
    }

    int play() {
        return call(BranchNotes::play);
    }

    int undo() {
        return call(BranchNotes::undo);
    }

    int wouldBring() {
        return call(BranchNotes::wouldBring);
    }

    int bestMixing(int d) {
        return call(x -> x.bestMixing(d));
    }

    int bestLength(int d) {
        return call(x -> x.bestLength(d));
    }

    int sharing(int d, int p) {
        return call(x -> x.sharing(d, p));
    }

    int holds(int p) {
        return call(x -> x.holds(p));
    }

    int worst() {
        return call(BranchNotes::worst);
    }

    int runScript(int n, long script) {
        return call(x -> x.runScript(n, script));
    }

    int simulate(long seed, int m) {
        return call(x -> x.simulate(seed, m));
    }

    int save(int slot) {
        return call(x -> x.save(slot));
    }

    int restore(int slot) {
        return call(x -> x.restore(slot));
    }
}
