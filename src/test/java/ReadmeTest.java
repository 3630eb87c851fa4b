import java.io.IOException;
import java.nio.file.Files;
import java.nio.file.Path;
import java.util.List;

/** The README's example stands here as it is written there, and gives the answers that it tells behind its lines. */
public final class ReadmeTest {
    private static final Check CHECK = new Check("ReadmeTest");

    private final List<String> readme;

    private ReadmeTest(List<String> readme) {
        this.readme = readme;
    }

    public static void main(String[] args) throws IOException {
        List<String> readme = linesBetween("README.md", "```java", "```");
        List<String> here = linesBetween("src/test/java/ReadmeTest.java", "        // begin", "        // end");
        CHECK.sameText("the example", String.join("\n", readme), String.join("\n", here).replaceAll("(?m)^ {8}", ""));
        new ReadmeTest(readme).example();
        CHECK.end();
    }

    private static List<String> linesBetween(String file, String first, String last) throws IOException {
        List<String> all = Files.readAllLines(Path.of(file));
        int from = all.indexOf(first) + 1;
        return all.subList(from, from + all.subList(from, all.size()).indexOf(last));
    }

    private void example() {
        // begin
        BranchNotes notes = new BranchNotes();

        // The text: a letter is a place (a is 0), + is taken, - is not; (..)5 comes five times.
        for (char c : "(a+b-)5(a+a-)7q+".toCharArray()) {
            notes.append(c);
        }
        int error = notes.errorPosition();                     // NONE: the text is a trace
        int branches = notes.branches();                       // 25

        // What would be: none of these calls changes anything.
        int would = notes.wouldBring();                        // 16 points more by play()
        int mixing = notes.bestMixing(1);                      // 1 would do best for the desk 1
        int length = notes.bestLength(1);                      // 1
        int holds = notes.holds(0);                            // 1 branch against it changes the guess
        int sharing = notes.sharing(0, 0);                     // 65536, bit 16: a and q share a note
        int simulated = notes.simulate(1, 100);                // 68063: 68 right guesses, 63 clashes

        // Actions: they change the state, and undo() takes them back.
        int mixingBefore = notes.setDesk(1, 0, mixing);        // 3
        boolean guessed = notes.branch(16, false);             // true: the guess was right
        int right = notes.play();                              // 21 of the 25 guesses
        int points = notes.about(2);                           // 14
        int guess = notes.place(0, 4);                         // 0: not taken
        float share = Float.intBitsToFloat(notes.share(0));    // 0.6315789 of a's branches were taken
        int strength = notes.strengthen(0, 5, 3);              // 1 it was before
        int remembered = notes.undo();                         // 3 states are still remembered

        // Scripts run on a copy. 10013: three branches at 00, taken; 60010: is the guess for 00 "taken"?
        int allSucceed = notes.runScript(2, 10013_60010L);     // NONE: no command fails
        int fails = notes.runScript(3, 10013_21050_60010L);    // 1: there is no mixing 5

        // Save slots keep a state; restore() forgets what undo() could have taken back.
        int saved = notes.save(0);                             // 26 branches so far
        int lost = notes.forget();                             // 14 points
        int restored = notes.restore(0);                       // 26
        boolean refused = false;                               // true behind the next call
        try {
            notes.undo();
        } catch (IllegalStateException e) {
            refused = true;
        }
        // end
        same("error", error);
        same("branches", branches);
        same("would", would);
        same("mixing", mixing);
        same("length", length);
        same("holds", holds);
        same("sharing", sharing);
        same("simulated", simulated);
        same("mixingBefore", mixingBefore);
        same("guessed", guessed);
        same("right", right);
        same("points", points);
        same("guess", guess);
        same("share", share);
        same("strength", strength);
        same("remembered", remembered);
        same("allSucceed", allSucceed);
        same("fails", fails);
        same("saved", saved);
        same("lost", lost);
        same("restored", restored);
        same("refused", refused);
    }

    private void same(String name, Object got) {
        boolean isNone = got.equals(BranchNotes.NONE);
        CHECK.sameText(name, isNone ? "NONE" : got.toString(), told(name));
    }

    /** The first word behind the line of the README that makes this variable. */
    private String told(String name) {
        for (String line : readme) {
            if (line.contains(" " + name + " = ") && line.contains(";  ")) {
                return line.replaceAll(".*; +// ([A-Za-z0-9.]+).*", "$1");
            }
        }
        return "nothing";
    }
}
