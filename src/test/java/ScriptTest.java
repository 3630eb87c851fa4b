/** Promises 26 and 27: scripts and simulations. */
public final class ScriptTest {
    private static final Check CHECK = new Check("ScriptTest");

    public static void main(String[] args) {
        testArguments();
        testOrder();
        testBranches();
        testSettings();
        testForget();
        testStrengths();
        testGuesses();
        testCounts();
        testEveryGroup();
        testCopy();
        testSimulate();
        CHECK.end();
    }

    private static void script(Run x, int n, long script, int due) {
        String before = x.picture();
        CHECK.same("runScript(" + n + ", " + script + ")", x.runScript(n, script), due);
        CHECK.samePicture("runScript(" + n + ", " + script + ")", x, before);
    }

    private static void succeeds(Run x, int group) {
        script(x, 1, group, Check.NONE);
    }

    private static void fails(Run x, int group) {
        script(x, 1, group, 0);
    }

    private static void testArguments() {
        Run x = new Run();
        for (int n : new int[] {0, 4, -1, Integer.MIN_VALUE, Integer.MAX_VALUE}) {
            CHECK.refuses(Check.ARGUMENT, "runScript(" + n + ", 40000)", () -> x.runScript(n, 40000));
            CHECK.refuses(Check.ARGUMENT, "runScript(" + n + ", 0)", () -> x.runScript(n, 0));
        }
        long behind = 1;
        for (int n = 1; n <= 3; n++) {
            behind *= 100000;
            int commands = n;
            long tooLong = behind;
            CHECK.refuses(Check.ARGUMENT, "runScript(" + n + ", " + tooLong + ")",
                    () -> x.runScript(commands, tooLong));
            CHECK.refuses(Check.ARGUMENT, "runScript(" + n + ", MAX)", () -> x.runScript(commands, Long.MAX_VALUE));
            CHECK.refuses(Check.ARGUMENT, "runScript(" + n + ", MIN)", () -> x.runScript(commands, Long.MIN_VALUE));
            CHECK.refuses(Check.ARGUMENT, "runScript(" + n + ", -1)", () -> x.runScript(commands, -1));
            CHECK.refuses(Check.ARGUMENT, "runScript(" + n + ", -40000)", () -> x.runScript(commands, -40000));
            script(x, n, tooLong - 1, 0);
            script(x, n, 0, 0);
        }
        CHECK.refuses(Check.STATE, "undo()", x::undo);
    }

    private static void testOrder() {
        Run x = new Run();
        script(x, 1, 40000, Check.NONE);
        script(x, 2, 40000, 0);
        script(x, 2, 4000040000L, Check.NONE);
        script(x, 2, 4000000000L, 1);
        script(x, 3, 400004000040000L, Check.NONE);
        script(x, 3, 400004000000000L, 2);
        script(x, 3, 400000000040000L, 1);
        script(x, 3, 4000040000L, 0);
        // the state goes on from command to command: a branch at 0, taken, makes the guess be taken
        script(x, 2, 1001160010L, Check.NONE);
        script(x, 2, 6001010011L, 0);
        script(x, 3, 100111001160010L, Check.NONE);
        // and what the forgetting of the third command forgot
        script(x, 3, 100114000060010L, 2);
    }

    private static void testBranches() {
        Run x = new Run();
        succeeds(x, 10001);
        succeeds(x, 10011);
        succeeds(x, 12519);
        succeeds(x, 12501);
        fails(x, 12611);
        fails(x, 19911);
        fails(x, 10010);
        fails(x, 10000);
        fails(x, 10021);
        fails(x, 10091);
        // n right guesses: at least n, and no more
        for (int n = 1; n <= 9; n++) {
            script(x, 2, (10000L + n) * 100000 + 70000 + n, Check.NONE);
            script(x, 2, (10000L + n) * 100000 + 70000 + n + 1, 1);
        }
        // taken: the first one is wrong
        script(x, 2, 1251970008L, Check.NONE);
        script(x, 2, 1251970009L, 1);
        // it is at the place pp
        script(x, 2, 1251962510L, Check.NONE);
        script(x, 2, 1251962410L, 1);
    }

    private static void testSettings() {
        int[] most = {4, 6, 1};
        for (int d = 0; d < 10; d++) {
            for (int w = 0; w < 10; w++) {
                for (int v = 0; v < 10; v++) {
                    int group = 20000 + 1000 * d + 100 * w + 10 * v;
                    boolean good = d < 2 && w < 3 && v <= most[w];
                    Run x = new Run();
                    script(x, 1, group, good ? Check.NONE : 0);
                    fails(x, group + 1);
                }
            }
        }
        int[] least = {2, 1, 0};
        int[] greatest = {6, 4, 9};
        for (int w = 0; w < 10; w++) {
            for (int v = 0; v < 10; v++) {
                int group = 30000 + 1000 * w + 100 * v;
                boolean good = w < 3 && v >= least[w] && v <= greatest[w];
                Run x = new Run();
                script(x, 1, group, good ? Check.NONE : 0);
                fails(x, group + 1);
                fails(x, group + 10);
            }
        }
        Run x = new Run();
        // the size 6 gives the note 63; the middle 4 the strength 7
        script(x, 2, 3060080630L, Check.NONE);
        script(x, 1, 80630, 0);
        script(x, 2, 3140050007L, Check.NONE);
        script(x, 1, 50007, 0);
        // all becomes as at first
        script(x, 3, 100093140070001L, 2);
        script(x, 3, 100092100070001L, 2);
        // the mixing 1 without a path: the note 0 for all
        script(x, 3, 200105000362510L, Check.NONE);
        script(x, 2, 5000362510L, 1);
    }

    private static void testForget() {
        Run x = new Run();
        succeeds(x, 40000);
        for (int other : new int[] {1, 10, 100, 1000, 9999}) {
            fails(x, 40000 + other);
        }
        x.branch(0, false);
        script(x, 1, 70001, Check.NONE);
        script(x, 2, 4000070001L, 1);
    }

    private static void testStrengths() {
        Run x = new Run();
        succeeds(x, 50000);
        succeeds(x, 51153);
        fails(x, 51154);
        fails(x, 51163);
        fails(x, 50993);
        fails(x, 52003);
        fails(x, 59003);
        script(x, 2, 5115381153L, Check.NONE);
        script(x, 2, 5115280153L, 1);
        script(x, 2, 5115281153L, 1);
        succeeds(x, 80000);
        succeeds(x, 80001);
        succeeds(x, 81151);
        fails(x, 80002);
        fails(x, 80009);
        fails(x, 80160);
        fails(x, 80990);
        fails(x, 82000);
        fails(x, 89000);
        x.set(0, 2);
        succeeds(x, 80030);
        fails(x, 80040);
        fails(x, 50040);
    }

    private static void testGuesses() {
        Run x = new Run();
        x.strengthen(0, 4, 2);
        succeeds(x, 60410);
        fails(x, 60400);
        succeeds(x, 62010);
        fails(x, 62000);
        succeeds(x, 60500);
        fails(x, 60510);
        fails(x, 60520);
        fails(x, 60490);
        fails(x, 60411);
        fails(x, 60501);
        succeeds(x, 62500);
        fails(x, 62600);
        fails(x, 62610);
        fails(x, 69900);
    }

    private static void testCounts() {
        Run x = new Run();
        succeeds(x, 70000);
        fails(x, 70001);
        fails(x, 71000);
        succeeds(x, 90000);
        fails(x, 90001);
        fails(x, 90100);
        fails(x, 91000);
        x.branch(0, true);
        fails(x, 90000);
        succeeds(x, 70000);
        x.forget();
        x.type("((a-)9(a-)5)9");
        x.play();
        succeeds(x, 70126);
        fails(x, 70127);
        fails(x, 70999);
        fails(x, 71126);
        succeeds(x, 90099);
        fails(x, 90126);
        x.set(2, 9);
        x.play();
        x.branch(1, true);
        x.branch(2, true);
        x.branch(3, true);
        x.branch(4, true);
        CHECK.same("points", x.about(2), 126 - 36);
        Run y = Run.with("((a-)9(a-)3)9(a-)3");
        for (int k = 0; k < 9; k++) {
            y.play();
        }
        CHECK.same("right guesses", y.about(1), 999);
        succeeds(y, 70999);
        y.undo();
        fails(y, 70999);
        succeeds(x, 90090);
        fails(x, 90091);
        succeeds(x, 70126);
        fails(x, 70127);
    }

    /** No group makes anything else happen than success or failure at 0. */
    private static void testEveryGroup() {
        Run x = new Run();
        int good = 0;
        for (int group = 0; group < 100000; group++) {
            if (group % 500 == 0) {
                x = new Run();
                x.branch(3, false);
            }
            int answer = x.runScript(1, group);
            if (answer == Check.NONE) {
                good++;
            } else {
                CHECK.same("runScript(1, " + group + ")", answer, 0);
            }
        }
        // 1: 26 * 2 * 9; 2: 2 * (5 + 7 + 2); 3: 5 + 4 + 10; 4: 1; 5: 2 * 16 * 4; 6: 26; 7: 2; 9: 2
        int due = 468 + 28 + 19 + 1 + 128 + 26 + 2 + 2;
        // 8: strengths 0 and 1 for each note, but 0 alone for the one used by each desk
        due += 2 * (15 * 2 + 1);
        CHECK.same("groups that succeed", good, due);
    }

    private static void testCopy() {
        Run x = new Run();
        x.branch(3, true);
        String before = x.picture();
        x.runScript(3, 100193060051153L);
        x.runScript(2, 2114040000L);
        x.simulate(1, 300);
        CHECK.samePicture("scripts and simulations", x, before);
        CHECK.same("none of them is an action", x.undo(), 0);
    }

    private static void testSimulate() {
        Run x = new Run();
        for (int m : new int[] {0, 301, -1, Integer.MIN_VALUE, Integer.MAX_VALUE}) {
            CHECK.refuses(Check.ARGUMENT, "simulate(1, " + m + ")", () -> x.simulate(1, m));
        }
        Run large = sized(6);
        large.setDesk(1, 2, 1);
        CHECK.same("simulate(4, 200) with 64 notes and own paths", large.simulate(4, 200), 135135);
        long[] seeds = {0, 1, -1, 42, Long.MIN_VALUE, Long.MAX_VALUE, 123456789012345L};
        for (long seed : seeds) {
            for (int m : new int[] {1, 2, 3, 50, 299, 300}) {
                for (int size = 2; size <= 6; size++) {
                    compare(sized(size), seed, m);
                    Run used = sized(size);
                    used.setDesk(1, 2, 1);
                    used.branch(3, true);
                    used.branch(7, true);
                    compare(used, seed, m);
                }
            }
        }
    }

    private static Run sized(int size) {
        Run x = new Run();
        x.set(0, size);
        return x;
    }

    /** The same branches as the simulation's, one by one. */
    private static void compare(Run x, long seed, int m) {
        String before = x.picture();
        int got = x.simulate(seed, m);
        CHECK.samePicture("simulate()", x, before);
        int right = x.about(1);
        int clashes = x.about(3) + x.about(4);
        long number = seed;
        boolean last = false;
        for (int k = 0; k < m; k++) {
            number = number * 6364136223846793005L + 1442695040888963407L;
            int r = (int) (number >>> 33);
            boolean taken = r / 8 % 8 < r % 8 ? true : !last;
            x.branch(r % 8, taken);
            last = taken;
        }
        int due = 1000 * (x.about(1) - right) + (x.about(3) + x.about(4) - clashes);
        CHECK.same("simulate(" + seed + ", " + m + ")", got, due);
    }
}
