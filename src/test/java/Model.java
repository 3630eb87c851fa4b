import java.util.ArrayList;
import java.util.HashMap;
import java.util.List;
import java.util.Map;

/**
 * The document told a second time, in the plainest way: what happened is kept as a list, and every
 * answer comes from going through the list from its beginning. Paths are the last ways as a text.
 */
final class Model {
    static final int NONE = -99999;

    /** Thrown by the reader of the text at the index that is not allowed. */
    private static final class Misfit extends RuntimeException {
        private static final long serialVersionUID = 1;
        final int index;

        Misfit(int index) {
            this.index = index;
        }
    }

    /** A thing that happened: kind, and up to three numbers. Kinds: 'b' branch, 'd' setDesk, 's' set, 'f' forget, 't' strengthen. */
    record Event(char kind, int a, int b, int c) {
    }

    private static final class Note {
        int strength;
        int last = NONE;
        int uses;
        int rights;
    }

    /** What has come out of a list of events. */
    private static final class World {
        int[][] desk = {{0, 0, 0}, {3, 4, 0}};
        int[] common = {4, 2, 2};
        List<Map<Integer, Note>> notes;
        String[][] ways;
        int[] chooser;
        int[][] counted;
        List<Boolean> guesses;
        int[] clashes;
        int[] rights;

        World(List<Event> events) {
            clear();
            for (Event e : events) {
                happen(e);
            }
        }

        void clear() {
            notes = List.of(new HashMap<>(), new HashMap<>());
            ways = new String[2][26];
            for (String[] row : ways) {
                java.util.Arrays.fill(row, "");
            }
            chooser = new int[26];
            java.util.Arrays.fill(chooser, 1);
            counted = new int[26][3];
            guesses = new ArrayList<>();
            clashes = new int[2];
            rights = new int[2];
        }

        void happen(Event e) {
            switch (e.kind()) {
                case 'b' -> branch(e.a(), e.b() == 1);
                case 'd' -> {
                    desk[e.a()][e.b()] = e.c();
                    clear();
                }
                case 's' -> {
                    common[e.a()] = e.b();
                    clear();
                }
                case 'f' -> clear();
                case 't' -> note(e.a(), e.b()).strength = e.c();
                default -> throw new AssertionError();
            }
        }

        Note note(int d, int i) {
            return notes.get(d).computeIfAbsent(i, k -> {
                Note n = new Note();
                n.strength = common[1] - 1;
                return n;
            });
        }

        int path(int d, int p) {
            String all = "0000000" + ways[d][desk[d][2] == 1 ? p : 0];
            String last = all.substring(all.length() - desk[d][1]);
            return last.isEmpty() ? 0 : Integer.parseInt(last, 2);
        }

        int noteOf(int d, int p) {
            int path = path(d, p);
            int number;
            if (desk[d][0] == 0) {
                number = p;
            } else if (desk[d][0] == 1) {
                number = path;
            } else if (desk[d][0] == 2) {
                number = p + path;
            } else if (desk[d][0] == 3) {
                number = (p | path) - (p & path);
            } else {
                number = (int) Math.pow(2, desk[d][1]) * p + path;
            }
            return number % (int) Math.pow(2, common[0]);
        }

        boolean says(int d, int p) {
            return note(d, noteOf(d, p)).strength >= common[1];
        }

        boolean guess(int p) {
            return says(chooser[p] < 2 ? 0 : 1, p);
        }

        boolean branch(int p, boolean taken) {
            boolean right = guess(p) == taken;
            guesses.add(right);
            counted[p][0]++;
            counted[p][1] += taken ? 1 : 0;
            counted[p][2] += right ? 1 : 0;
            boolean[] ok = {says(0, p) == taken, says(1, p) == taken};
            if (ok[0] && !ok[1] && chooser[p] > 0) {
                chooser[p]--;
            }
            if (ok[1] && !ok[0] && chooser[p] < 3) {
                chooser[p]++;
            }
            for (int d = 0; d < 2; d++) {
                Note n = note(d, noteOf(d, p));
                clashes[d] += n.uses > 0 && n.last != p ? 1 : 0;
                n.uses++;
                n.rights += ok[d] ? 1 : 0;
                rights[d] += ok[d] ? 1 : 0;
                int next = n.strength + (taken ? 1 : -1);
                if (next >= 0 && next <= 2 * common[1] - 1) {
                    n.strength = next;
                }
                n.last = p;
                String longer = ways[d][desk[d][2] == 1 ? p : 0] + (taken ? "1" : "0");
                ways[d][desk[d][2] == 1 ? p : 0] = longer.substring(Math.max(0, longer.length() - 6));
            }
            return right;
        }

        int right() {
            return (int) guesses.stream().filter(g -> g).count();
        }

        int points() {
            return right() - common[2] * (guesses.size() - right());
        }

        int lastSeries() {
            int k = guesses.size();
            while (k > 0 && guesses.get(k - 1)) {
                k--;
            }
            return guesses.size() - k;
        }

        int longestSeries() {
            int longest = 0;
            int now = 0;
            for (boolean g : guesses) {
                now = g ? now + 1 : 0;
                longest = Math.max(longest, now);
            }
            return longest;
        }
    }

    private String text = "";
    private List<Event> events = new ArrayList<>();
    private final List<List<Event>> remembered = new ArrayList<>();
    private final List<List<Event>> slots = new ArrayList<>(java.util.Arrays.asList(null, null));
    private World now = new World(events);

    // ---- what went wrong

    private static void argument(boolean good) {
        if (!good) {
            throw new IllegalArgumentException();
        }
    }

    private static void index(int i, int behind) {
        if (i < 0 || i >= behind) {
            throw new IndexOutOfBoundsException();
        }
    }

    private static void state(boolean good) {
        if (!good) {
            throw new IllegalStateException();
        }
    }

    // ---- text

    int append(int c) {
        argument(c >= 0 && c <= 255);
        state(text.length() < 80);
        text += (char) c;
        return text.length();
    }

    int clearText() {
        int before = text.length();
        text = "";
        return before;
    }

    int errorPosition() {
        try {
            int behind = items(0, 0).behind;
            return behind == text.length() ? NONE : behind;
        } catch (Misfit m) {
            return m.index;
        }
    }

    int branches() {
        return errorPosition() == NONE ? items(0, 0).ways.size() : NONE;
    }

    private record Part(List<Event> ways, int behind) {
    }

    private char at(int k) {
        return k < text.length() ? text.charAt(k) : (char) 0;
    }

    private Part items(int from, int open) {
        List<Event> all = new ArrayList<>();
        int k = from;
        while (at(k) == '(' || at(k) >= 'a' && at(k) <= 'z') {
            Part item = at(k) == '(' ? group(k, open) : letter(k);
            all.addAll(item.ways);
            k = item.behind;
        }
        return new Part(all, k);
    }

    private Part letter(int from) {
        if (at(from + 1) != '+' && at(from + 1) != '-') {
            throw new Misfit(from + 1);
        }
        return new Part(List.of(new Event('b', at(from) - 'a', at(from + 1) == '+' ? 1 : 0, 0)), from + 2);
    }

    private Part group(int from, int open) {
        if (open == 4) {
            throw new Misfit(from);
        }
        Part inner = items(from + 1, open + 1);
        if (inner.behind == from + 1 || at(inner.behind) != ')') {
            throw new Misfit(inner.behind);
        }
        char digit = at(inner.behind + 1);
        if ("23456789".indexOf(digit) < 0) {
            throw new Misfit(inner.behind + 1);
        }
        List<Event> all = new ArrayList<>();
        for (int k = '0'; k < digit; k++) {
            all.addAll(inner.ways);
        }
        return new Part(all, inner.behind + 2);
    }

    // ---- what there is

    int about(int what) {
        argument(what >= 0 && what <= 9);
        int[] all = {now.guesses.size(), now.right(), now.points(), now.clashes[0], now.clashes[1],
            now.lastSeries(), now.longestSeries(), now.common[0], now.common[1], now.common[2]};
        return all[what];
    }

    int desk(int d, int what) {
        index(d, 2);
        argument(what >= 0 && what <= 4);
        int used = (int) now.notes.get(d).values().stream().filter(n -> n.uses > 0).count();
        int[] all = {now.desk[d][0], now.desk[d][1], now.desk[d][2], now.rights[d], used};
        return all[what];
    }

    int note(int d, int i, int what) {
        index(d, 2);
        index(i, 1 << now.common[0]);
        argument(what >= 0 && what <= 3);
        Note n = now.note(d, i);
        int[] all = {n.strength, n.last, n.uses, n.rights};
        return all[what];
    }

    int place(int p, int what) {
        index(p, 26);
        argument(what >= 0 && what <= 4);
        int[] c = now.counted[p];
        int[] all = {c[0], c[1], c[2], now.chooser[p], now.guess(p) ? 1 : 0};
        return all[what];
    }

    int path(int d, int p) {
        index(d, 2);
        index(p, 26);
        return now.path(d, p);
    }

    int noteOf(int d, int p) {
        index(d, 2);
        index(p, 26);
        return now.noteOf(d, p);
    }

    int share(int p) {
        index(p, 26);
        int[] c = now.counted[p];
        return c[0] == 0 ? NONE : Float.floatToIntBits((float) c[1] / (float) c[0]);
    }

    // ---- actions

    private void act(List<Event> more) {
        remembered.add(events);
        if (remembered.size() > 14) {
            remembered.remove(0);
        }
        events = new ArrayList<>(events);
        events.addAll(more);
        for (Event e : more) {
            now.happen(e);
        }
    }

    private static boolean isDeskSetting(int what, int v) {
        return what >= 0 && what <= 2 && v >= 0 && v <= (what == 0 ? 4 : what == 1 ? 6 : 1);
    }

    private static boolean isSetting(int what, int v) {
        return what == 0 && v >= 2 && v <= 6 || what == 1 && v >= 1 && v <= 4 || what == 2 && v >= 0 && v <= 9;
    }

    int setDesk(int d, int what, int v) {
        index(d, 2);
        argument(isDeskSetting(what, v));
        int before = now.desk[d][what];
        act(List.of(new Event('d', d, what, v)));
        return before;
    }

    int set(int what, int v) {
        argument(isSetting(what, v));
        int before = now.common[what];
        act(List.of(new Event('s', what, v, 0)));
        return before;
    }

    int forget() {
        int before = now.points();
        act(List.of(new Event('f', 0, 0, 0)));
        return before;
    }

    int strengthen(int d, int i, int v) {
        index(d, 2);
        index(i, 1 << now.common[0]);
        argument(v >= 0 && v <= 2 * now.common[1] - 1);
        int before = now.note(d, i).strength;
        act(List.of(new Event('t', d, i, v)));
        return before;
    }

    boolean branch(int p, boolean taken) {
        index(p, 26);
        boolean right = now.guess(p) == taken;
        act(List.of(new Event('b', p, taken ? 1 : 0, 0)));
        return right;
    }

    private boolean isPlayable() {
        return errorPosition() == NONE && branches() <= 300;
    }

    int play() {
        state(isPlayable());
        int before = now.right();
        act(items(0, 0).ways);
        return now.right() - before;
    }

    int undo() {
        state(!remembered.isEmpty());
        events = remembered.remove(remembered.size() - 1);
        now = new World(events);
        return remembered.size();
    }

    // ---- what would be

    private World after(List<Event> more) {
        List<Event> all = new ArrayList<>(events);
        all.addAll(more);
        return new World(all);
    }

    int wouldBring() {
        return isPlayable() ? after(items(0, 0).ways).points() - now.points() : NONE;
    }

    int bestMixing(int d) {
        return best(d, 0);
    }

    int bestLength(int d) {
        return best(d, 1);
    }

    private int best(int d, int what) {
        index(d, 2);
        if (!isPlayable()) {
            return NONE;
        }
        int best = 0;
        for (int v = 1; isDeskSetting(what, v); v++) {
            best = bring(d, what, v) > bring(d, what, best) ? v : best;
        }
        return best;
    }

    private int bring(int d, int what, int v) {
        List<Event> more = new ArrayList<>();
        more.add(new Event('d', d, what, v));
        more.addAll(items(0, 0).ways);
        return after(more).points();
    }

    int sharing(int d, int p) {
        index(d, 2);
        index(p, 26);
        int sum = 0;
        for (int q = 25; q >= 0; q--) {
            sum = 2 * sum + (q != p && now.noteOf(d, q) == now.noteOf(d, p) ? 1 : 0);
        }
        return sum;
    }

    int holds(int p) {
        index(p, 26);
        boolean guess = now.guess(p);
        World later = after(List.of());
        int count = 0;
        while (count < 99 && later.guess(p) == guess) {
            later.branch(p, !guess);
            count++;
        }
        return count;
    }

    int worst() {
        int worst = 0;
        for (int p = 25; p >= 0; p--) {
            worst = wrong(p) >= wrong(worst) ? p : worst;
        }
        return wrong(worst) == 0 ? NONE : worst;
    }

    private int wrong(int p) {
        return now.counted[p][0] - now.counted[p][2];
    }

    // ---- scripts, simulations

    int runScript(int n, long script) {
        argument(n >= 1 && n <= 3);
        argument(script >= 0 && Long.toString(script).length() <= 5 * n);
        String digits = Long.toString(script);
        digits = "0".repeat(5 * n - digits.length()) + digits;
        Model copy = new Model();
        copy.events = new ArrayList<>(events);
        copy.now = new World(copy.events);
        for (int k = 0; k < n; k++) {
            if (!copy.command(digits.substring(5 * k, 5 * k + 5))) {
                return k;
            }
        }
        return NONE;
    }

    private boolean command(String g) {
        int[] d = g.chars().map(c -> c - '0').toArray();
        int pp = Integer.parseInt(g.substring(1, 3));
        int ii = Integer.parseInt(g.substring(2, 4));
        try {
            switch (d[0]) {
                case 1:
                    argument(d[3] <= 1 && d[4] >= 1);
                    for (int k = 0; k < d[4]; k++) {
                        branch(pp, d[3] == 1);
                    }
                    return true;
                case 2:
                    argument(d[4] == 0);
                    setDesk(d[1], d[2], d[3]);
                    return true;
                case 3:
                    argument(g.endsWith("00"));
                    set(d[1], d[2]);
                    return true;
                case 4:
                    forget();
                    return g.equals("40000");
                case 5:
                    strengthen(d[1], ii, d[4]);
                    return true;
                case 6:
                    return d[4] == 0 && place(pp, 4) == d[3];
                case 7:
                    return d[1] == 0 && about(1) >= Integer.parseInt(g.substring(2));
                case 8:
                    return note(d[1], ii, 0) >= d[4];
                case 9:
                    return pp == 0 && about(2) >= Integer.parseInt(g.substring(3));
                default:
                    return false;
            }
        } catch (IllegalArgumentException | IndexOutOfBoundsException e) {
            return false;
        }
    }

    int simulate(long seed, int m) {
        argument(m >= 1 && m <= 300);
        World later = after(List.of());
        long x = seed;
        List<Boolean> ways = new ArrayList<>(List.of(false));
        for (int k = 0; k < m; k++) {
            x = x * 6364136223846793005L + 1442695040888963407L;
            int r = (int) (x >>> 33);
            boolean taken = r / 8 % 8 < r % 8 || !ways.get(k);
            ways.add(taken);
            later.branch(r % 8, taken);
        }
        int clashes = later.clashes[0] + later.clashes[1] - now.clashes[0] - now.clashes[1];
        return 1000 * (later.right() - now.right()) + (clashes > 999 ? 999 : clashes);
    }

    // ---- save slots

    int save(int slot) {
        index(slot, 2);
        slots.set(slot, events);
        return now.guesses.size();
    }

    int restore(int slot) {
        index(slot, 2);
        state(slots.get(slot) != null);
        events = slots.get(slot);
        now = new World(events);
        remembered.clear();
        return now.guesses.size();
    }
}
