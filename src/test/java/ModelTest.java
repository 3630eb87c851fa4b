import java.util.Random;
import java.util.function.LongSupplier;

/** Long runs of mixed calls, good ones and bad ones, each answered by the class and by the model. */
public final class ModelTest {
    private static final int RUNS = 400;
    private static final int MOST_CALLS_OF_A_STEP = 3;
    private static final int[] EDGES = {-1, Integer.MIN_VALUE, Integer.MAX_VALUE, 99, 26, 64};

    private final Check check;
    private final Random random;
    private final BranchNotes x = new BranchNotes();
    private final Model y = new Model();
    private String rest = "";
    private int calls;

    private ModelTest(Check check, int seed) {
        this.check = check;
        this.random = new Random(seed);
    }

    public static void main(String[] args) {
        Check check = new Check("ModelTest");
        for (int run = 0; run < RUNS; run++) {
            ModelTest test = new ModelTest(check, run);
            while (test.calls + MOST_CALLS_OF_A_STEP <= Run.MOST_CALLS) {
                test.step("run " + run + ", call " + test.calls + ": ");
            }
        }
        check.end();
    }

    /** The answer, or what tells the exception's class. */
    private static long answer(LongSupplier call) {
        try {
            return call.getAsLong();
        } catch (RuntimeException e) {
            return Long.MIN_VALUE + e.getClass().getName().hashCode();
        }
    }

    private void same(String call, LongSupplier got, LongSupplier due) {
        calls++;
        check.same(call, answer(got), answer(due));
    }

    private int number(int behind) {
        int chance = random.nextInt(60);
        if (chance == 0) {
            return EDGES[random.nextInt(EDGES.length)];
        }
        return chance == 1 ? behind : random.nextInt(behind);
    }

    private int few() {
        return random.nextInt(4) == 0 ? number(26) : number(5) * (random.nextBoolean() ? 1 : 4);
    }

    private void step(String at) {
        int chance = random.nextInt(100);
        if (chance < 25) {
            textCall(at);
        } else if (chance < 60) {
            actionCall(at);
        } else if (chance < 80) {
            questionCall(at);
        } else if (chance < 92) {
            whatIfCall(at);
        } else {
            slotCall(at);
        }
    }

    private void textCall(String at) {
        int chance = random.nextInt(40);
        if (chance == 0) {
            same(at + "clearText", x::clearText, y::clearText);
            rest = "";
        } else if (chance < 3) {
            int c = random.nextInt(4) == 0 ? number(256) : "()+-29a".charAt(random.nextInt(7));
            same(at + "append " + c, () -> x.append(c), () -> y.append(c));
        } else if (chance < 5) {
            same(at + "errorPosition", x::errorPosition, y::errorPosition);
            same(at + "branches", x::branches, y::branches);
        } else {
            if (rest.isEmpty()) {
                same(at + "branches", x::branches, y::branches);
                if (random.nextBoolean()) {
                    same(at + "clearText", x::clearText, y::clearText);
                }
                rest = items(0);
            }
            char c = rest.charAt(0);
            rest = rest.substring(1);
            same(at + "append " + c, () -> x.append(c), () -> y.append(c));
        }
    }

    private String items(int open) {
        StringBuilder all = new StringBuilder();
        int many = 1 + random.nextInt(3);
        for (int k = 0; k < many; k++) {
            if (open < 4 && random.nextInt(3) == 0) {
                all.append('(').append(items(open + 1)).append(')').append(2 + random.nextInt(8));
            } else {
                all.append("abcdqrz".charAt(random.nextInt(7))).append(random.nextInt(3) == 0 ? '-' : '+');
            }
        }
        return all.toString();
    }

    private void actionCall(String at) {
        int chance = random.nextInt(100);
        int d = number(2);
        if (chance < 60) {
            int p = few();
            boolean taken = random.nextInt(5) < 3;
            same(at + "branch " + p + " " + taken, () -> x.branch(p, taken) ? 1 : 0, () -> y.branch(p, taken) ? 1 : 0);
        } else if (chance < 75) {
            int i = number(random.nextBoolean() ? 16 : 64);
            int v = number(random.nextBoolean() ? 4 : 9);
            same(at + "strengthen " + d + " " + i + " " + v, () -> x.strengthen(d, i, v), () -> y.strengthen(d, i, v));
        } else if (chance < 80) {
            int what = number(3);
            int v = number(what == 0 ? 5 : what == 1 ? 7 : 2);
            same(at + "setDesk " + d + " " + what + " " + v, () -> x.setDesk(d, what, v), () -> y.setDesk(d, what, v));
        } else if (chance < 84) {
            int what = number(3);
            int v = number(what == 0 ? 7 : what == 1 ? 5 : 10);
            same(at + "set " + what + " " + v, () -> x.set(what, v), () -> y.set(what, v));
        } else if (chance < 85) {
            same(at + "forget", x::forget, y::forget);
        } else if (chance < 92) {
            same(at + "play", x::play, y::play);
        } else {
            same(at + "undo", x::undo, y::undo);
        }
    }

    private void questionCall(String at) {
        int d = number(2);
        int p = few();
        int what = number(5);
        switch (random.nextInt(8)) {
            case 0 -> {
                int w = number(10);
                same(at + "about " + w, () -> x.about(w), () -> y.about(w));
            }
            case 1 -> same(at + "desk " + d + " " + what, () -> x.desk(d, what), () -> y.desk(d, what));
            case 2 -> {
                int i = number(random.nextBoolean() ? 16 : 64);
                same(at + "note " + d + " " + i + " " + what, () -> x.note(d, i, what), () -> y.note(d, i, what));
            }
            case 3 -> same(at + "place " + p + " " + what, () -> x.place(p, what), () -> y.place(p, what));
            case 4 -> same(at + "path " + d + " " + p, () -> x.path(d, p), () -> y.path(d, p));
            case 5 -> same(at + "noteOf " + d + " " + p, () -> x.noteOf(d, p), () -> y.noteOf(d, p));
            case 6 -> same(at + "share " + p, () -> x.share(p), () -> y.share(p));
            default -> same(at + "worst", x::worst, y::worst);
        }
    }

    private void whatIfCall(String at) {
        int d = number(2);
        int p = few();
        switch (random.nextInt(8)) {
            case 0 -> same(at + "wouldBring", x::wouldBring, y::wouldBring);
            case 1 -> same(at + "bestMixing " + d, () -> x.bestMixing(d), () -> y.bestMixing(d));
            case 2 -> same(at + "bestLength " + d, () -> x.bestLength(d), () -> y.bestLength(d));
            case 3 -> same(at + "sharing " + d + " " + p, () -> x.sharing(d, p), () -> y.sharing(d, p));
            case 4 -> same(at + "holds " + p, () -> x.holds(p), () -> y.holds(p));
            case 5 -> {
                long seed = random.nextLong();
                int m = number(301);
                same(at + "simulate " + seed + " " + m, () -> x.simulate(seed, m), () -> y.simulate(seed, m));
            }
            default -> scriptCall(at);
        }
    }

    private void scriptCall(String at) {
        int n = 1 + number(3);
        long script = 0;
        for (int k = 0; k < n && k < 3; k++) {
            script = script * 100000 + group();
        }
        long whole = random.nextInt(30) == 0 ? random.nextLong() >> random.nextInt(60) : script;
        same(at + "runScript " + n + " " + whole, () -> x.runScript(n, whole), () -> y.runScript(n, whole));
    }

    private int group() {
        if (random.nextInt(12) == 0) {
            return random.nextInt(100000);
        }
        int d = random.nextInt(2);
        int t = random.nextInt(2);
        int i = random.nextInt(16);
        int p = random.nextInt(26);
        int[] all = {
            10000 + 100 * p + 10 * t + random.nextInt(10), 20000 + 1000 * d + 100 * random.nextInt(3) + 10 * t,
            30000 + 1000 * random.nextInt(3) + 100 * random.nextInt(5), 40000, 50000 + 1000 * d + 10 * i + t * 2,
            60000 + 100 * p + 10 * t, 70000 + random.nextInt(40), 80000 + 1000 * d + 10 * i + 1 + t,
            90000 + random.nextInt(30),
        };
        return all[random.nextInt(all.length)];
    }

    private void slotCall(String at) {
        int slot = number(2);
        if (random.nextBoolean()) {
            same(at + "save " + slot, () -> x.save(slot), () -> y.save(slot));
        } else if (random.nextInt(3) == 0) {
            same(at + "restore " + slot, () -> x.restore(slot), () -> y.restore(slot));
        } else {
            same(at + "undo", x::undo, y::undo);
        }
    }
}
