import java.math.BigInteger;
import java.util.function.Consumer;

/** The edges of promises 26 and 27: scripts and simulations. */
public final class ScriptEdgesTest {
    private static final Check CHECK = new Check("ScriptEdgesTest");
    private static final int NONE = Check.NONE;

    public static void main(String[] args) {
        arguments();
        groups();
        branchesOfScripts();
        settingsOfScripts();
        strengthsOfScripts();
        questionsOfScripts();
        otherGroups();
        simulate();
        CHECK.end();
    }

    private static void script(Run x, int n, long script, int due) {
        CHECK.same("runScript(" + n + ", " + script + ")", x.runScript(n, script), due);
    }

    private static void succeeds(Run x, int group) {
        script(x, 1, group, NONE);
    }

    private static void fails(Run x, int group) {
        script(x, 1, group, 0);
    }

    // ---- promise 26: the arguments, and which group is which

    private static void arguments() {
        CHECK.sentence("Promise 26", "Throws IllegalArgumentException if n is out of range", () -> {
            Run x = new Run();
            for (int n : new int[] {0, 4, -1, Integer.MIN_VALUE, Integer.MAX_VALUE}) {
                CHECK.refuses(Check.ARGUMENT, "runScript(" + n + ", 0)", () -> x.runScript(n, 0));
                CHECK.refuses(Check.ARGUMENT, "runScript(" + n + ", 40000)", () -> x.runScript(n, 40000));
            }
            script(x, 1, 40000, NONE);
            script(x, 3, 400004000040000L, NONE);
        });
        CHECK.sentence("Promise 26", "or if script is negative", () -> {
            Run x = new Run();
            for (int n = 1; n <= 3; n++) {
                int commands = n;
                for (long script : new long[] {-1, -40000, -400004000040000L, Long.MIN_VALUE}) {
                    CHECK.refuses(Check.ARGUMENT, "runScript(" + n + ", " + script + ")",
                            () -> x.runScript(commands, script));
                }
                script(x, n, 0, 0);
            }
        });
        CHECK.sentence("Promise 26", "or has more than 5 * n digits", () -> {
            Run x = new Run();
            long behind = 1;
            for (int n = 1; n <= 3; n++) {
                behind *= 100000;
                int commands = n;
                script(x, n, behind - 1, 0);
                for (long script : new long[] {behind, behind + 40000, 10 * behind, Long.MAX_VALUE}) {
                    CHECK.refuses(Check.ARGUMENT, "runScript(" + n + ", " + script + ")",
                            () -> x.runScript(commands, script));
                }
            }
        });
        CHECK.sentence("Promise 26", "the commands, a number of at most 5 * n digits (0 or more)", () -> {
            Run x = new Run();
            script(x, 1, 99999, 0);
            script(x, 2, 9999999999L, 0);
            script(x, 3, 999999999999999L, 0);
            script(x, 1, 0, 0);
            script(x, 2, 0, 0);
            script(x, 3, 0, 0);
        });
    }

    private static void groups() {
        CHECK.sentence("Promise 26", "the first command is the highest group of the number (with zeros before it, if it"
                + " has fewer digits)", () -> {
            Run x = new Run();
            script(x, 2, 40000, 0);
            script(x, 3, 40000, 0);
            script(x, 3, 4000040000L, 0);
            script(x, 1, 4000, 0);
            script(x, 2, 1001160010L, NONE);
            script(x, 2, 6001010011L, 0);
            script(x, 3, 100111001270002L, NONE);
            script(x, 3, 100111001270003L, 2);
        });
        CHECK.sentence("Promise 26", "Returns the index, from 0, of the first command that fails; NONE if all succeed.",
                () -> {
            Run x = new Run();
            script(x, 2, 4000040000L, NONE);
            script(x, 2, 4000000000L, 1);
            script(x, 2, 4000099999L, 1);
            script(x, 3, 400004000040000L, NONE);
            script(x, 3, 400004000000000L, 2);
            script(x, 3, 400000000040000L, 1);
            script(x, 3, 400000000000000L, 1);
            script(x, 3, 999994000099999L, 0);
            script(x, 1, 40000, NONE);
            script(x, 1, 99999, 0);
        });
        CHECK.sentence("Promise 26", "Runs a script on a copy of the state.", () -> {
            Consumer<Run> story = x -> {
                x.branch(3, true);
                x.save(1);
                x.strengthen(1, 15, 3);
                x.type("(a+b-)3");
            };
            String before = Look.whole(story);
            long[] scripts = {100111251951153L, 211401041940000L, 306000319030200L, 100199999960000L, 511535063340000L};
            for (long script : scripts) {
                CHECK.sameText("the same as without the script " + script, Look.whole(x -> {
                    story.accept(x);
                    x.runScript(3, script);
                }), before);
            }
            Run x = new Run();
            script(x, 2, 1000970009L, NONE);
            script(x, 1, 70001, 0);
            x.branch(0, false);
            script(x, 2, 1000970010L, NONE);
            script(x, 2, 1000970011L, 1);
        });
    }

    // ---- the commands 1 to 5

    private static void branchesOfScripts() {
        CHECK.sentence("Promise 26", "1 p p t n: n branches at pp, taken (t is 1) or not (t is 0), one after the other"
                + " (n is 1 to 9).", () -> {
            Run x = new Run();
            for (int n = 1; n <= 9; n++) {
                script(x, 2, (10000L + n) * 100000 + 70000 + n, NONE);
                script(x, 2, (10000L + n) * 100000 + 70000 + n + 1, 1);
                succeeds(x, 12510 + n);
                succeeds(x, 10000 + n);
            }
            fails(x, 10000);
            fails(x, 10010);
            fails(x, 12510);
            fails(x, 10021);
            fails(x, 10099);
            fails(x, 10022);
            // At the place pp, and so that it is taken: its guess becomes the other one.
            script(x, 2, 1251162510L, NONE);
            script(x, 2, 1251162410L, 1);
            script(x, 2, 1250162510L, 1);
        });
        CHECK.sentence("Promise 26", "commands with desks, notes or places that do not exist fail", () -> {
            Run x = new Run();
            for (int p : new int[] {26, 27, 30, 99}) {
                fails(x, 10001 + 100 * p);
                fails(x, 10011 + 100 * p);
                fails(x, 60000 + 100 * p);
                fails(x, 60010 + 100 * p);
            }
            succeeds(x, 12501);
            succeeds(x, 62500);
            for (int d = 2; d <= 9; d++) {
                fails(x, 20000 + 1000 * d);
                fails(x, 50000 + 1000 * d);
                fails(x, 80000 + 1000 * d);
            }
            for (int size = 2; size <= 6; size++) {
                x.set(0, size);
                int last = (1 << size) - 1;
                for (int d = 0; d < 2; d++) {
                    succeeds(x, 50000 + 1000 * d + 10 * last);
                    succeeds(x, 80000 + 1000 * d + 10 * last);
                    fails(x, 50000 + 1000 * d + 10 * last + 10);
                    fails(x, 80000 + 1000 * d + 10 * last + 10);
                    fails(x, 50990 + 1000 * d);
                    fails(x, 80990 + 1000 * d);
                }
            }
        });
    }

    private static void settingsOfScripts() {
        CHECK.sentence("Promise 26", "2 d w v 0: setDesk(d, w, v).", () -> {
            int[] most = {4, 6, 1};
            for (int d = 0; d < 2; d++) {
                for (int w = 0; w < 3; w++) {
                    Run x = new Run();
                    for (int v = 0; v <= 9; v++) {
                        script(x, 1, 20000 + 1000 * d + 100 * w + 10 * v, v <= most[w] ? NONE : 0);
                    }
                }
                fails(new Run(), 20300 + 1000 * d);
                fails(new Run(), 20900 + 1000 * d);
            }
            Run x = new Run();
            // The mixing 1 without a path has the note 0 for all places; and all becomes as at first.
            script(x, 3, 200105000362510L, NONE);
            script(x, 2, 5000362510L, 1);
            script(x, 3, 100092000070001L, 2);
            script(x, 3, 100092000070000L, NONE);
        });
        CHECK.sentence("Promise 26", "3 w v 0 0: set(w, v).", () -> {
            int[] least = {2, 1, 0};
            int[] most = {6, 4, 9};
            for (int w = 0; w < 3; w++) {
                Run x = new Run();
                for (int v = 0; v <= 9; v++) {
                    script(x, 1, 30000 + 1000 * w + 100 * v, v >= least[w] && v <= most[w] ? NONE : 0);
                }
            }
            Run x = new Run();
            fails(x, 33200);
            fails(x, 39200);
            script(x, 2, 3060050630L, NONE);
            script(x, 1, 50630, 0);
            script(x, 2, 3140050007L, NONE);
            script(x, 1, 50007, 0);
            script(x, 3, 100093220070001L, 2);
            script(x, 3, 320001001190000L, NONE);
            script(x, 3, 321001001190000L, 2);
        });
        CHECK.sentence("Promise 26", "4 0 0 0 0: forget().", () -> {
            Run x = new Run();
            succeeds(x, 40000);
            x.branch(0, false);
            script(x, 2, 4000070000L, NONE);
            script(x, 2, 4000070001L, 1);
            script(x, 3, 100094000070001L, 2);
            for (int other : new int[] {1, 10, 100, 1000, 1111, 9999}) {
                fails(x, 40000 + other);
            }
        });
    }

    private static void strengthsOfScripts() {
        CHECK.sentence("Promise 26", "5 d i i v: strengthen(d, ii, v).", () -> {
            for (int middle = 1; middle <= 4; middle++) {
                Run x = new Run();
                x.set(1, middle);
                for (int v = 0; v <= 9; v++) {
                    int due = v < 2 * middle ? NONE : 0;
                    script(x, 1, 50000 + v, due);
                    script(x, 1, 51150 + v, due);
                }
            }
            Run x = new Run();
            script(x, 2, 5115381153L, NONE);
            script(x, 2, 5115380153L, 1);
            script(x, 2, 5115381143L, 1);
            script(x, 2, 5012260210L, 1);
            script(x, 2, 5012261210L, NONE);
        });
        CHECK.sentence("Promise 26", "The commands 1 to 5 fail if the method would throw an exception", () -> {
            Run x = new Run();
            for (int group : new int[] {12601, 20050, 20170, 20220, 20300, 22000, 30100, 30700, 31000, 31500, 33000,
                50004, 50160, 52000}) {
                fails(x, group);
                script(x, 2, 4000000000L + group, 1);
                script(x, 2, group * 100000L + 40000, 0);
            }
        });
    }

    // ---- the commands 6 to 9

    private static void questionsOfScripts() {
        CHECK.sentence("Promise 26", "6 p p t 0: succeeds if the guess for pp is taken (t is 1), or not (t is 0).",
                () -> {
            Run x = new Run();
            x.strengthen(0, 9, 2);
            for (int p = 0; p < 26; p++) {
                boolean taken = p % 16 == 9;
                script(x, 1, 60010 + 100 * p, taken ? NONE : 0);
                script(x, 1, 60000 + 100 * p, taken ? 0 : NONE);
            }
            for (int t = 2; t <= 9; t++) {
                fails(x, 60000 + 10 * t);
                fails(x, 62500 + 10 * t);
            }
        });
        CHECK.sentence("Promise 26", "7 0 x y z: succeeds if there were at least xyz right guesses so far.", () -> {
            Run x = new Run();
            for (int right = 0; right <= 12; right++) {
                succeeds(x, 70000);
                succeeds(x, 70000 + right);
                fails(x, 70000 + right + 1);
                fails(x, 70999);
                x.branch(25, false);
            }
            x.branch(25, true);
            succeeds(x, 70013);
            fails(x, 70014);
            hasRight("((a-)7)7((a-)7)7", 998, 0);
            hasRight("((a-)9(a-)2)9", 999, NONE);
            hasRight("((a-)5)5((a-)5)5((a-)5)5((a-)5)5", 1000, NONE);
        });
        CHECK.sentence("Promise 26", "8 d i i v: succeeds if the note ii of the desk d has at least the strength v.",
                () -> {
            for (int d = 0; d < 2; d++) {
                Run x = new Run();
                x.set(0, 6);
                x.set(1, 4);
                for (int strength = 0; strength <= 7; strength++) {
                    x.strengthen(d, 63, strength);
                    for (int v = 0; v <= 9; v++) {
                        script(x, 1, 80630 + 1000 * d + v, v <= strength ? NONE : 0);
                    }
                }
                succeeds(x, 80003);
                succeeds(x, 81003);
                fails(x, 80004);
                fails(x, 81004);
                fails(x, 81637 - 1000 * d);
            }
        });
        CHECK.sentence("Promise 26", "9 0 0 x y: succeeds if there are at least xy points.", () -> {
            Run x = new Run();
            for (int points = 0; points <= 12; points++) {
                succeeds(x, 90000);
                succeeds(x, 90000 + points);
                fails(x, 90000 + points + 1);
                fails(x, 90099);
                x.branch(25, false);
            }
            x.forget();
            x.branch(25, true);
            fails(x, 90000);
            x.go(25, true, 2);
            CHECK.same("points", x.about(2), 0);
            succeeds(x, 90000);
            fails(x, 90001);
            Run y = new Run().go(25, false, 98);
            succeeds(y, 90098);
            fails(y, 90099);
            y.branch(25, false);
            succeeds(y, 90099);
            y.branch(25, false);
            succeeds(y, 90099);
        });
    }

    /** Behind 900 right guesses those of the text come. */
    private static void hasRight(String text, int right, int dueOf999) {
        Run x = Run.with("(((a-)9(a-)9(a-)7)4)3");
        x.play();
        x.play();
        x.play();
        x.clearText();
        x.type(text).play();
        CHECK.same("right guesses", x.about(1), right);
        succeeds(x, 70998);
        script(x, 1, 70999, dueOf999);
    }

    private static void otherGroups() {
        CHECK.sentence("Promise 26", "pp, ii, xy and xyz are decimal numbers.", ScriptEdgesTest::decimalNumbers);
        CHECK.sentence("Promise 26", "and so does any other group (also one with another digit where a 0 is written)",
                () -> {
            Run x = new Run();
            for (int first : new int[] {0, 1, 9, 10, 999, 1000, 5000, 9999}) {
                fails(x, first);
            }
            for (int digit = 1; digit <= 9; digit++) {
                fails(x, 20000 + digit);
                fails(x, 21110 + digit);
                fails(x, 30400 + digit);
                fails(x, 30400 + 10 * digit);
                fails(x, 40000 + digit);
                fails(x, 40000 + 10 * digit);
                fails(x, 40000 + 100 * digit);
                fails(x, 40000 + 1000 * digit);
                fails(x, 60000 + digit);
                fails(x, 70000 + 1000 * digit);
                fails(x, 90000 + 100 * digit);
                fails(x, 90000 + 1000 * digit);
            }
        });
    }

    /** Each number has a neighbour that another base, or other digits of the group, would take for it. */
    private static void decimalNumbers() {
        Run x = new Run();
        x.set(0, 6);
        for (int p : new int[] {0, 8, 9, 10, 19, 25}) {
            x.strengthen(0, p, 3);
            succeeds(x, 60010 + 100 * p);
            fails(x, 60000 + 100 * p);
            fails(x, 60110 + 100 * p);
        }
        for (int i : new int[] {8, 10, 36, 63}) {
            script(x, 2, (51002L + 10 * i) * 100000 + 81002 + 10 * i, NONE);
            script(x, 2, (51002L + 10 * i) * 100000 + 81002 + 10 * (i - 1), 1);
        }
        x.forget();
        x.go(11, false, 123);
        succeeds(x, 70123);
        fails(x, 70124);
        x.forget();
        x.go(11, false, 21);
        succeeds(x, 90021);
        fails(x, 90022);
    }

    // ---- promise 27

    private static void simulate() {
        CHECK.sentence("Promise 27", "m: number of branches, 1 to 300", () -> {
            for (long seed : new long[] {0, 1, -1, 42, Long.MIN_VALUE, Long.MAX_VALUE}) {
                for (int m : new int[] {1, 2, 299, 300}) {
                    simulateIs(x -> { }, seed, m);
                }
            }
        });
        CHECK.sentence("Promise 27", "Throws IllegalArgumentException if m is out of range", () -> {
            Run x = new Run();
            for (int m : new int[] {0, 301, -1, -300, Integer.MIN_VALUE, Integer.MAX_VALUE}) {
                CHECK.refuses(Check.ARGUMENT, "simulate(0, " + m + ")", () -> x.simulate(0, m));
                CHECK.refuses(Check.ARGUMENT, "simulate(-1, " + m + ")", () -> x.simulate(-1, m));
            }
        });
        CHECK.sentence("Promise 27", "x is first replaced by x * 6364136223846793005L + 1442695040888963407L (with long"
                + " overflow), and r = (int) (x >>> 33) is computed", () -> {
            long[] seeds = {2, 3, 1L << 31, 1L << 32, 1L << 33, 1L << 62, -1L << 33, Long.MIN_VALUE + 1,
                Long.MAX_VALUE - 1, 6364136223846793005L, -1442695040888963407L, 123456789012345L};
            for (long seed : seeds) {
                simulateIs(x -> { }, seed, 1);
                simulateIs(x -> { }, seed, 100);
            }
        });
        CHECK.sentence("Promise 27", "A long x starts as the seed (once).", () -> {
            // The second branch goes on from the number of the first: a seed of its own would bring the same again.
            for (long seed = -10; seed < 10; seed++) {
                simulateIs(ScriptEdgesTest::someBranches, seed, 2);
                simulateIs(ScriptEdgesTest::someBranches, seed, 5);
            }
        });
        CHECK.sentence("Promise 27", "The place is r % 8", () -> {
            for (long seed = 0; seed < 40; seed++) {
                Run x = new Run();
                x.setDesk(1, 0, 0);
                long number = seed * 6364136223846793005L + 1442695040888963407L;
                int p = (int) (number >>> 33) % 8;
                for (int q = 0; q < 8; q++) {
                    x.strengthen(0, q, q == p ? 3 : 0);
                }
                CHECK.same("the first branch is at the place " + p, x.simulate(seed, 1), 1000);
                x.strengthen(0, p, 0);
                CHECK.same("the note of " + p + " says not taken", x.simulate(seed, 1), 0);
            }
        });
        CHECK.sentence("Promise 27", "(The branch before the first one was not taken.)", () -> {
            // So the first one is taken in any case.
            for (long seed = 0; seed < 40; seed++) {
                Run x = new Run();
                CHECK.same("the first one, guessed wrong", x.simulate(seed, 1), 0);
                x.go(25, true, 3);
                for (int i = 0; i < 16; i++) {
                    x.strengthen(0, i, 3);
                }
                CHECK.same("the first one, guessed right", x.simulate(seed, 1) / 1000, 1);
            }
        });
        CHECK.sentence("Promise 27", "the branch is taken if r / 8 % 8 is below the place, otherwise just if the branch"
                + " before it (in the simulation) was not", () -> {
            for (long seed = 100; seed < 140; seed++) {
                simulateIs(ScriptEdgesTest::someBranches, seed, 3);
                simulateIs(ScriptEdgesTest::someBranches, seed, 60);
            }
        });
        CHECK.sentence("Promise 27", "Returns 1000 * (how many of these guesses are right) + (how many clashes there"
                + " are in them, of both desks together, or 999 if more).", () -> {
            for (long seed = 0; seed < 8; seed++) {
                for (int size = 2; size <= 6; size++) {
                    int notes = size;
                    simulateIs(x -> x.set(0, notes), seed, 300);
                    simulateIs(x -> {
                        x.set(0, notes);
                        someBranches(x);
                    }, seed, 200);
                }
                // One note of each desk for all places: as many clashes as there can be, never more than 600.
                simulateIs(ScriptEdgesTest::oneNote, seed, 300);
                simulateIs(ScriptEdgesTest::lastNote, seed, 1);
            }
            Run x = new Run();
            oneNote(x);
            CHECK.same("more clashes than 500", x.simulate(1, 300) % 1000 > 500, true);
        });
        CHECK.sentence("Promise 27", "Simulates m branches on a copy of the state.", () -> {
            String before = Look.whole(ScriptEdgesTest::someBranches);
            for (int m : new int[] {1, 300}) {
                CHECK.sameText("the same as without the simulation", Look.whole(x -> {
                    someBranches(x);
                    x.simulate(5, m);
                }), before);
            }
            Run x = new Run();
            CHECK.same("simulate() twice", x.simulate(5, 300), x.simulate(5, 300));
        });
    }

    private static void someBranches(Run x) {
        x.setDesk(1, 2, 1);
        x.strengthen(1, 3, 3);
        x.branch(3, true);
        x.branch(7, true);
        x.branch(23, true);
        x.save(0);
    }

    private static void oneNote(Run x) {
        x.setDesk(0, 0, 1);
        x.setDesk(1, 0, 1);
        x.setDesk(1, 1, 0);
    }

    /** The next branch uses the last of 64 notes of each desk, and the place before it was 25: two clashes. */
    private static void lastNote(Run x) {
        x.set(0, 6);
        for (int d = 0; d < 2; d++) {
            x.setDesk(d, 0, 1);
            x.setDesk(d, 1, 6);
        }
        x.go(25, true, 8);
        CHECK.same("simulate() of one branch", x.simulate(0, 1), 1002);
    }

    /** The same branches one by one; the number behind the seed is computed without overflow, as a remainder by 2^64. */
    private static void simulateIs(Consumer<Run> story, long seed, int m) {
        Run x = new Run();
        story.accept(x);
        int got = x.simulate(seed, m);
        int right = x.about(1);
        int clashes = x.about(3) + x.about(4);
        BigInteger all = BigInteger.ONE.shiftLeft(64);
        BigInteger number = BigInteger.valueOf(seed).mod(all);
        boolean taken = false;
        for (int k = 0; k < m; k++) {
            number = number.multiply(new BigInteger("6364136223846793005"))
                    .add(new BigInteger("1442695040888963407")).mod(all);
            int r = number.shiftRight(33).intValueExact();
            int p = r % 8;
            taken = r / 8 % 8 < p || !taken;
            x.branch(p, taken);
        }
        int due = 1000 * (x.about(1) - right) + x.about(3) + x.about(4) - clashes;
        CHECK.same("simulate(" + seed + ", " + m + ")", got, due);
    }
}
