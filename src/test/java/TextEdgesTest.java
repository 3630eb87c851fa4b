/** The edges of the text: "Terms", and promises 2 to 5. */
public final class TextEdgesTest {
    private static final Check CHECK = new Check("TextEdgesTest");
    private static final String LETTERS = "abcdefghijklmnopqrstuvwxyz";
    /** The greatest trace: 80 characters, 34 items in four parentheses. */
    private static final String GREATEST = "((((" + "a+".repeat(34) + ")9)9)9)9";

    public static void main(String[] args) {
        traces();
        parentheses();
        errors();
        appending();
        clearing();
        counting();
        CHECK.end();
    }

    private static void trace(String text, int branches) {
        Run x = Run.with(text);
        CHECK.same("errorPosition() of " + text, x.errorPosition(), Check.NONE);
        CHECK.same("branches() of " + text, x.branches(), branches);
    }

    private static void error(String text, int position) {
        Run x = Run.with(text);
        CHECK.same("errorPosition() of " + text, x.errorPosition(), position);
        CHECK.same("branches() of " + text, x.branches(), Check.NONE);
    }

    /** Of the 256 characters behind this text, the ones that are allowed there; all others are the error. */
    private static void allowed(String before, String next) {
        Run x = new Run();
        for (int c = 0; c <= 255; c++) {
            if (x.callsLeft() < before.length() + 3) {
                x = new Run();
            }
            x.clearText();
            x.type(before);
            x.append(c);
            boolean isAllowed = next.indexOf(c) >= 0;
            String call = "errorPosition() of " + before + " and the character " + c;
            if (isAllowed) {
                CHECK.same(call + " is not there", x.errorPosition() != before.length(), true);
            } else {
                CHECK.same(call, x.errorPosition(), before.length());
            }
        }
    }

    private static void traces() {
        CHECK.sentence("Text", "A trace is any number of items (perhaps none).", () -> {
            trace("", 0);
            trace("a+", 1);
            trace("a+".repeat(40), 40);
        });
        CHECK.sentence("Text", "An item is a letter from a to z (for a place)", () -> {
            allowed("", LETTERS + "(");
            allowed("a+", LETTERS + "(");
            allowed("(", LETTERS + "(");
            placeOf("a+", 0);
            placeOf("z+", 25);
            placeOf("m+", 12);
        });
        CHECK.sentence("Text", "and a sign + (taken) or - (not taken)", () -> {
            allowed("a", "+-");
            allowed("z", "+-");
            wayOf("a+", 1);
            wayOf("a-", 0);
        });
        CHECK.sentence("Text", "There are no blanks.", () -> {
            error(" ", 0);
            error(" a+", 0);
            error("a +", 1);
            error("a+ ", 2);
            error("a+ b+", 2);
            error("( a+)2", 1);
            error("(a+ )2", 3);
            error("(a+) 2", 4);
            error("(a+)2 ", 5);
            error("a+\n", 2);
            error("\ta+", 0);
        });
    }

    private static void placeOf(String text, int p) {
        Run x = Run.with(text);
        x.play();
        for (int q = 0; q < 26; q++) {
            CHECK.same(text + ": branches at " + q, x.place(q, 0), q == p ? 1 : 0);
        }
    }

    private static void wayOf(String text, int taken) {
        Run x = Run.with(text);
        x.play();
        CHECK.same(text + ": taken", x.place(0, 1), taken);
        CHECK.same(text + ": gone", x.place(0, 0), 1);
    }

    private static void parentheses() {
        CHECK.sentence("Text", "\"(\", at least one item, \")\"", () -> {
            error("()", 1);
            error("()2", 1);
            error("a+()2", 3);
            error("(())2", 2);
            error("(a+()2)2", 4);
            error("((a+)2())2", 7);
            trace("(a+)2", 2);
            trace("((a+)2)2", 4);
            trace("(a+b-)2", 4);
            allowed("(a+", LETTERS + "()");
            allowed("((a+)2", LETTERS + "()");
            allowed("(((a-)9b+", LETTERS + "()");
        });
        CHECK.sentence("Text", "and a digit from 2 to 9", () -> {
            allowed("(a+)", "23456789");
            allowed("((a+)2)", "23456789");
            error("(a+)0", 4);
            error("(a+)1", 4);
            error("(a+)+", 4);
            error("(a+)22", 5);
            error("a+2", 2);
        });
        CHECK.sentence("Text", "which tells how often the items in it come", () -> {
            for (int times = 2; times <= 9; times++) {
                trace("(a+)" + times, times);
                trace("(a+b-)" + times, 2 * times);
                trace("((a+)" + times + "b-)" + times, times * (times + 1));
            }
        });
        CHECK.sentence("Text", "At most 4 parentheses may be open at one time.", () -> {
            trace("((((a+)2)2)2)2", 16);
            error("(((((", 4);
            error("(((((a+)2)2)2)2)2", 4);
            error("a+(((b+(c+(", 10);
            error("((((a+(", 6);
            allowed("(((", LETTERS + "(");
            allowed("((((", LETTERS);
            allowed("((((a+", LETTERS + ")");
            allowed("((((a+)2", LETTERS + "()");
            trace("((((a+)2(a+)2(a+)2)2)2)2", 48);
            trace("((((a+)2)2)2)2((((a+)2)2)2)2", 32);
            error("((((a+)2)2)2)2(((((", 18);
            trace("(a+)2(a+)2(a+)2(a+)2(a+)2(a+)2", 12);
        });
    }

    private static void errors() {
        CHECK.sentence("Text", "The error position is the index of the first character that these rules do not allow"
                + " at its place", () -> {
            error("+", 0);
            error("-a", 0);
            error(")", 0);
            error("2", 0);
            error("A+", 0);
            error("aa", 1);
            error("a++", 2);
            error("a+)", 2);
            error("a+x", 3);
            error("(a)", 2);
            error("(a+))", 4);
            error("(a+)2)", 5);
            error("?!", 0);
            error("a+?!", 2);
            error("a+".repeat(39) + "a)", 79);
            error("a+".repeat(39) + ")2", 78);
        });
        CHECK.sentence("Text", "if the text ends too soon, it is the length of the text", () -> {
            error("a", 1);
            error("(", 1);
            error("(a", 2);
            error("(a+", 3);
            error("(a+)", 4);
            error("((a+)2", 6);
            error("((((", 4);
            error("a+b", 3);
            error("a+".repeat(39) + "(a", 80);
            error("((" + "a+".repeat(38) + ")2", 80);
            error("(" + "a+".repeat(39) + ")", 80);
            error("((((" + "a+".repeat(38), 80);
        });
        CHECK.sentence("Promise 4", "NONE if it is a trace", () -> {
            trace("", 0);
            trace("z-", 1);
            trace(GREATEST, 223074);
            Run x = Run.with("a+");
            x.append('b');
            CHECK.same("errorPosition() of a+b", x.errorPosition(), 3);
            x.append('-');
            CHECK.same("errorPosition() of a+b-", x.errorPosition(), Check.NONE);
        });
    }

    private static void appending() {
        CHECK.sentence("Promise 2", "c: character code, 0 to 255", () -> {
            Run x = new Run();
            for (int c = 0; c <= 255; c++) {
                if (c % 80 == 0) {
                    x.clearText();
                }
                CHECK.same("append(" + c + ")", x.append(c), c % 80 + 1);
            }
        });
        CHECK.sentence("Promise 2", "Throws IllegalArgumentException if c is out of range", () -> {
            Run x = Run.with("a+");
            for (int c : new int[] {-1, 256, -256, 256 + 'a', Integer.MIN_VALUE, Integer.MAX_VALUE}) {
                CHECK.refuses(Check.ARGUMENT, "append(" + c + ")", () -> x.append(c));
            }
            CHECK.same("branches() behind it", x.branches(), 1);
            CHECK.same("the next length", x.append('b'), 3);
        });
        CHECK.sentence("Promise 2", "Returns the new length of the text.", () -> {
            Run x = new Run();
            for (int length = 1; length <= 80; length++) {
                CHECK.same("append('a')", x.append('a'), length);
            }
        });
        CHECK.sentence("Promise 2", "Throws IllegalStateException if the text already has 80 characters", () -> {
            Run x = Run.with(GREATEST.substring(0, 79));
            CHECK.same("the 80th character", x.append('9'), 80);
            for (int c : new int[] {'a', '+', 0, 255}) {
                CHECK.refuses(Check.STATE, "append(" + c + ") to 80 characters", () -> x.append(c));
            }
            CHECK.same("branches() behind it", x.branches(), 223074);
            CHECK.same("clearText() behind it", x.clearText(), 80);
            CHECK.same("append('a')", x.append('a'), 1);
        });
        CHECK.sentence("Terms", "The object has a text buffer of at most 80 characters.", () -> {
            trace("a+".repeat(40), 40);
            Run x = Run.with("a+".repeat(40));
            CHECK.refuses(Check.STATE, "append(97)", () -> x.append('a'));
            CHECK.same("clearText()", x.clearText(), 80);
        });
    }

    private static void clearing() {
        CHECK.sentence("Promise 3", "Empties the text buffer.", () -> {
            Run x = Run.with("?a+");
            x.clearText();
            CHECK.same("errorPosition()", x.errorPosition(), Check.NONE);
            CHECK.same("branches()", x.branches(), 0);
            CHECK.same("a text behind it", x.type("(b-)3").branches(), 3);
            x.clearText();
            x.type("((((a+)9");
            x.clearText();
            CHECK.same("open parentheses are gone", x.type("((((a+)2)2)2)2").branches(), 16);
        });
        CHECK.sentence("Promise 3", "Returns the previous length of the text.", () -> {
            Run x = new Run();
            CHECK.same("clearText() of nothing", x.clearText(), 0);
            CHECK.same("clearText() of one character", x.type("?").clearText(), 1);
            CHECK.same("clearText() again", x.clearText(), 0);
            CHECK.same("clearText() of 80 characters", x.type(GREATEST).clearText(), 80);
            CHECK.same("clearText() again", x.clearText(), 0);
        });
    }

    private static void counting() {
        CHECK.sentence("Promise 5", "Returns how many branches it has, with all repetitions", () -> {
            trace("", 0);
            trace("(a+)2b-(b-)3", 6);
            trace("((a+)2b-)3c+", 10);
            trace("(b-(a+)2)3", 9);
            trace("(a+)9(a+)9", 18);
            trace("((((a+)9)9)9)9", 6561);
            trace("((((a+)9)9)9)9((((a+)9)9)9)9", 2 * 6561);
            trace(GREATEST, 34 * 6561);
            trace("((((a+b+)9)9)9)9".repeat(5), 5 * 2 * 6561);
            trace("(((a+)5)6)9(a+)9(a+)9(a+)9a+a+a+", 300);
            trace("(((a+)5)6)9(a+)9(a+)9(a+)9a+a+a+a+", 301);
        });
        CHECK.sentence("Promise 5", "NONE if it is no trace", () -> {
            error("a", 1);
            error("?", 0);
            error("(a+)", 4);
            error("((((a+)9)9)9)9)", 14);
            error("a+b", 3);
        });
    }
}
