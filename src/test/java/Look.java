import java.util.function.Consumer;
import java.util.function.ToLongFunction;

/**
 * What can be found out about an object behind a story (a run of calls), as a text that can be compared.
 * No object is asked more than 512 times: the story is told again to another one.
 */
final class Look {
    private final Consumer<Run> story;
    private final StringBuilder seen = new StringBuilder();
    private Run run;

    private Look(Consumer<Run> story) {
        this.story = story;
        begin();
    }

    /** All numbers of the state. */
    static String state(Consumer<Run> story) {
        Look look = new Look(story);
        look.lookAtState();
        return look.seen.toString();
    }

    /** The state, the text, the remembered states and the save slots. The story has 250 calls at most. */
    static String whole(Consumer<Run> story) {
        Look look = new Look(story);
        look.lookAtState();
        look.lookAtText();
        look.lookAtRemembered();
        look.lookAtSlots();
        return look.seen.toString();
    }

    private void begin() {
        run = new Run();
        story.accept(run);
    }

    private long answer(ToLongFunction<Run> question) {
        if (run.callsLeft() == 0) {
            begin();
        }
        return question.applyAsLong(run);
    }

    private void ask(ToLongFunction<Run> question) {
        seen.append(answer(question)).append(' ');
    }

    /** As ask, for a call that may be refused. */
    private boolean tryCall(String name, ToLongFunction<Run> call) {
        seen.append('\n').append(name).append(": ");
        try {
            ask(call);
            return true;
        } catch (RuntimeException e) {
            seen.append(e.getClass().getSimpleName());
            return false;
        }
    }

    private void lookAtState() {
        seen.append("about: ");
        askAbout(10);
        int size = (int) answer(x -> x.about(7));
        for (int d = 0; d < 2; d++) {
            lookAtDesk(d, 1 << size);
        }
        for (int p = 0; p < 26; p++) {
            int place = p;
            seen.append("\nplace ").append(p).append(": ");
            ask(x -> x.share(place));
            for (int what = 0; what < 5; what++) {
                int asked = what;
                ask(x -> x.place(place, asked));
            }
        }
    }

    private void askAbout(int behind) {
        for (int what = 0; what < behind; what++) {
            int asked = what;
            ask(x -> x.about(asked));
        }
    }

    private void lookAtDesk(int d, int notes) {
        seen.append("\ndesk ").append(d).append(": ");
        for (int what = 0; what < 5; what++) {
            int asked = what;
            ask(x -> x.desk(d, asked));
        }
        for (int i = 0; i < notes; i++) {
            lookAtNote(d, i);
        }
        for (int p = 0; p < 26; p++) {
            int place = p;
            ask(x -> x.path(d, place));
            ask(x -> x.noteOf(d, place));
        }
    }

    private void lookAtNote(int d, int i) {
        seen.append(" note ").append(i).append(": ");
        for (int what = 0; what < 4; what++) {
            int asked = what;
            ask(x -> x.note(d, i, asked));
        }
    }

    private void lookAtText() {
        begin();
        seen.append("\ntext: ");
        ask(Run::errorPosition);
        ask(Run::branches);
        ask(Run::wouldBring);
        ask(Run::clearText);
    }

    private void lookAtRemembered() {
        begin();
        for (int k = 0; k < 16 && tryCall("undo", Run::undo); k++) {
            lookShortly();
        }
    }

    private void lookAtSlots() {
        begin();
        for (int slot = 0; slot < 2; slot++) {
            int asked = slot;
            if (tryCall("restore " + slot, x -> x.restore(asked))) {
                lookShortly();
            }
        }
    }

    private void lookShortly() {
        askAbout(10);
        for (int d = 0; d < 2; d++) {
            int desk = d;
            ask(x -> x.desk(desk, 3));
            ask(x -> x.desk(desk, 4));
        }
    }
}
