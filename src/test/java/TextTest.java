/** Promises 2 to 5: the text. */
public final class TextTest {
    private static final Check CHECK = new Check("TextTest");

    public static void main(String[] args) {
        testAppend();
        testClearText();
        testTraces();
        testErrors();
        testEveryCharacter();
        testTextIsNoState();
        CHECK.end();
    }

    private static void testAppend() {
        Run x = new Run();
        CHECK.refuses(Check.ARGUMENT, "append(-1)", () -> x.append(-1));
        CHECK.refuses(Check.ARGUMENT, "append(256)", () -> x.append(256));
        CHECK.refuses(Check.ARGUMENT, "append(MIN)", () -> x.append(Integer.MIN_VALUE));
        CHECK.refuses(Check.ARGUMENT, "append(MAX)", () -> x.append(Integer.MAX_VALUE));
        CHECK.same("append(0)", x.append(0), 1);
        CHECK.same("append(255)", x.append(255), 2);
        for (int k = 3; k <= 80; k++) {
            CHECK.same("append(97)", x.append(97), k);
        }
        CHECK.refuses(Check.STATE, "append(97) to a full text", () -> x.append(97));
        CHECK.refuses(Check.ARGUMENT, "append(256) to a full text", () -> x.append(256));
        CHECK.refuses(Check.ARGUMENT, "append(-1) to a full text", () -> x.append(-1));
        CHECK.same("the full text stays", x.clearText(), 80);
        CHECK.same("append(97)", x.append(97), 1);
    }

    private static void testClearText() {
        Run x = Run.with("a+b");
        CHECK.same("clearText()", x.clearText(), 3);
        CHECK.same("clearText() again", x.clearText(), 0);
        CHECK.same("branches() of nothing", x.branches(), 0);
        x.type("c-");
        CHECK.same("a text after clearText()", x.branches(), 1);
        CHECK.refuses(Check.STATE, "undo(): the text is no action", x::undo);
    }

    private static void trace(String text, int branches) {
        Run x = Run.with(text);
        CHECK.same("errorPosition() of " + text, x.errorPosition(), Check.NONE);
        CHECK.same("branches() of " + text, x.branches(), branches);
        CHECK.same("the length of " + text, x.clearText(), text.length());
    }

    private static void error(String text, int position) {
        Run x = Run.with(text);
        CHECK.same("errorPosition() of " + text, x.errorPosition(), position);
        CHECK.same("branches() of " + text, x.branches(), Check.NONE);
    }

    private static void testTraces() {
        trace("", 0);
        trace("a+", 1);
        trace("z-", 1);
        trace("a+b-z+", 3);
        trace("(a+)2", 2);
        trace("(a+b-)9", 18);
        trace("(a+)2(b-)3", 5);
        trace("(a+)2b-(b-)3", 6);
        trace("((a+)2)3", 6);
        trace("((a+)2b-)3c+", 10);
        trace("(b-(a+)2)3", 9);
        trace("((((a+)2)2)2)2", 16);
        trace("((((a+)9)9)9)9", 6561);
        trace("(a+)9(a+)9(a+)9(a+)9(a+)9(a+)9(a+)9(a+)9(a+)9(a+)9(a+)9(a+)9(a+)9(a+)9(a+)9(a+)9", 144);
        trace("((((" + "a+".repeat(34) + ")9)9)9)9", 34 * 6561);
        trace("a+".repeat(40), 40);
        trace("(((a+)2(b-)2)2(c+)2)2(d-)2", 22);
    }

    private static void testErrors() {
        error("a", 1);
        error("aa", 1);
        error("a+b", 3);
        error("a++", 2);
        error("+", 0);
        error("-a", 0);
        error("A+", 0);
        error(" a+", 0);
        error("a +", 1);
        error("a+ ", 2);
        error("(", 1);
        error("()", 1);
        error("()2", 1);
        error("(a)", 2);
        error("(a+", 3);
        error("(a+)", 4);
        error("(a+)a", 4);
        error("(a+)1", 4);
        error("(a+)0", 4);
        error("(a+))", 4);
        error("(a+)22", 5);
        error("(a+)2)", 5);
        error("a+)", 2);
        error(")", 0);
        error("2", 0);
        error("a+2", 2);
        error("(a+2)", 3);
        error("((a+)2", 6);
        error("((a+)2)", 7);
        error("((a+)2()2)2", 7);
        error("((((", 4);
        error("(((((", 4);
        error("(((((a+)2)2)2)2)2", 4);
        error("((((a+)2)2)2)2((((a+)2(", 23);
        error("((((a+)2(a+)2)2)2)2(((((", 23);
        error("a+".repeat(39) + "(a", 80);
        error("a+".repeat(39) + "a(", 79);
    }

    /** Which of all characters may stand at each kind of place. */
    private static void testEveryCharacter() {
        String letters = "abcdefghijklmnopqrstuvwxyz";
        allowed("", letters + "(");
        allowed("a+", letters + "(");
        allowed("(", letters + "(");
        allowed("(a+", letters + "()");
        allowed("((((", letters);
        allowed("((((a+", letters + ")");
        allowed("a", "+-");
        allowed("(a+)", "23456789");
        allowed("(a+)2", letters + "(");
        allowed("((a+)2", letters + "()");
    }

    private static void allowed(String before, String next) {
        Run x = new Run();
        for (int c = 0; c <= 255; c++) {
            if (c % 16 == 0) {
                x = new Run();
            }
            x.clearText();
            x.type(before);
            x.append(c);
            int position = x.errorPosition();
            CHECK.same("the character " + c + " behind " + before, position != before.length(),
                    next.indexOf(c) >= 0);
        }
    }

    private static void testTextIsNoState() {
        Run x = new Run();
        x.branch(0, true);
        x.save(0);
        x.type("a+b-");
        x.undo();
        CHECK.same("undo() lets the text stay", x.branches(), 2);
        x.restore(0);
        CHECK.same("restore() lets the text stay", x.branches(), 2);
        x.forget();
        CHECK.same("forget() lets the text stay", x.branches(), 2);
    }
}
