import java.util.Arrays;

/**
 * Guesses which way a branch goes, from notes with strengths that two desks find by the place and by
 * the ways before. The promises are those of ../shared/DOC.md.
 *
 * Every row is made by a constructor and used again: no call makes an object, except an exception.
 */
public final class BranchNotes {
    public static final int NONE = -99999;

    private static final int DESKS = 2;
    private static final int PLACES = 26;
    private static final int SLOTS = 2;

    /** The greatest text that play() takes, and the longest simulation. */
    private static final int MOST_BRANCHES = 300;

    /** Of a desk, and as many of both desks together. */
    private static final int SETTINGS = 3;

    /** The settings of a desk, by the numbers that setDesk knows them by; each may be 0. */
    private static final int MIXING = 0;
    private static final int LENGTH = 1;
    private static final int OWN = 2;
    private static final int[] DESK_MOST = {4, 6, 1};

    /** The settings of both desks, by the numbers that set knows them by. */
    private static final int SIZE = 0;
    private static final int MIDDLE = 1;
    private static final int PENALTY = 2;
    private static final int[] COMMON_LEAST = {2, 1, 0};
    private static final int[] COMMON_MOST = {6, 4, 9};

    private static final int MOST_HOLD = 98;
    private static final int MOST_COMMANDS = 3;
    private static final int GROUP = 100000;

    private final Text text;
    private final State state;
    /** What is only tried goes its way on this copy. */
    private final State trial;
    private final History history;
    private final State[] slots;
    private final boolean[] saved;

    public BranchNotes() {
        text = new Text();
        state = new State();
        trial = new State();
        history = new History();
        slots = new State[SLOTS];
        for (int k = 0; k < SLOTS; k++) {
            slots[k] = new State();
        }
        saved = new boolean[SLOTS];
    }

    // ---- text

    public int append(int c) throws IllegalArgumentException, IllegalStateException {
        if (c < 0 || c > 255) {
            throw new IllegalArgumentException("no character code");
        }
        if (!text.add(c)) {
            throw new IllegalStateException("the text is full");
        }
        return text.length;
    }

    public int clearText() {
        int before = text.length;
        text.length = 0;
        return before;
    }

    public int errorPosition() {
        return text.read();
    }

    public int branches() {
        return text.read() == NONE ? text.stepCount : NONE;
    }

    // ---- what there is

    public int about(int what) throws IllegalArgumentException {
        switch (what) {
            case 0: return state.gone;
            case 1: return state.right;
            case 2: return state.points;
            case 3: return state.desks[0].clashes;
            case 4: return state.desks[1].clashes;
            case 5: return state.series;
            case 6: return state.longestSeries;
            case 7: return state.settings[SIZE];
            case 8: return state.settings[MIDDLE];
            case 9: return state.settings[PENALTY];
            default: throw new IllegalArgumentException("no such number");
        }
    }

    public int desk(int d, int what) throws IndexOutOfBoundsException, IllegalArgumentException {
        checkDesk(d);
        Desk desk = state.desks[d];
        switch (what) {
            case 0: return desk.settings[MIXING];
            case 1: return desk.settings[LENGTH];
            case 2: return desk.settings[OWN];
            case 3: return desk.right;
            case 4: return desk.countUsed();
            default: throw new IllegalArgumentException("no such number of a desk");
        }
    }

    public int note(int d, int i, int what) throws IndexOutOfBoundsException, IllegalArgumentException {
        checkDesk(d);
        checkNote(i);
        Desk desk = state.desks[d];
        switch (what) {
            case 0: return desk.strengths[i];
            case 1: return desk.lastPlaces[i];
            case 2: return desk.uses[i];
            case 3: return desk.rights[i];
            default: throw new IllegalArgumentException("no such number of a note");
        }
    }

    public int place(int p, int what) throws IndexOutOfBoundsException, IllegalArgumentException {
        checkPlace(p);
        switch (what) {
            case 0: return state.goneAt[p];
            case 1: return state.takenAt[p];
            case 2: return state.rightAt[p];
            case 3: return state.choosers[p];
            case 4: return state.guessFor(p) ? 1 : 0;
            default: throw new IllegalArgumentException("no such number of a place");
        }
    }

    public int path(int d, int p) throws IndexOutOfBoundsException {
        checkDesk(d);
        checkPlace(p);
        return state.desks[d].pathFor(p);
    }

    public int noteOf(int d, int p) throws IndexOutOfBoundsException {
        checkDesk(d);
        checkPlace(p);
        return state.noteFor(d, p);
    }

    public int share(int p) throws IndexOutOfBoundsException {
        checkPlace(p);
        int all = state.goneAt[p];
        return all > 0 ? quotientBits(state.takenAt[p], all) : NONE;
    }

    // ---- actions

    public int setDesk(int d, int what, int v) throws IndexOutOfBoundsException, IllegalArgumentException {
        checkDesk(d);
        if (!isDeskSetting(what, v)) {
            throw new IllegalArgumentException("no such setting of a desk");
        }
        history.remember(state);
        int before = state.desks[d].settings[what];
        state.changeDesk(d, what, v);
        return before;
    }

    public int set(int what, int v) throws IllegalArgumentException {
        if (!isCommonSetting(what, v)) {
            throw new IllegalArgumentException("no such setting");
        }
        history.remember(state);
        int before = state.settings[what];
        state.changeBoth(what, v);
        return before;
    }

    public int forget() {
        history.remember(state);
        int before = state.points;
        state.beginAnew();
        return before;
    }

    public int strengthen(int d, int i, int v) throws IndexOutOfBoundsException, IllegalArgumentException {
        checkDesk(d);
        checkNote(i);
        if (!state.isStrength(v)) {
            throw new IllegalArgumentException("no such strength");
        }
        history.remember(state);
        int before = state.desks[d].strengths[i];
        state.desks[d].strengths[i] = v;
        return before;
    }

    public boolean branch(int p, boolean taken) throws IndexOutOfBoundsException {
        checkPlace(p);
        history.remember(state);
        return state.go(p, taken);
    }

    public int play() throws IllegalStateException {
        if (!text.isPlayable()) {
            throw new IllegalStateException("the text can't be played");
        }
        history.remember(state);
        int before = state.right;
        state.goAll(text);
        return state.right - before;
    }

    public int undo() throws IllegalStateException {
        if (!history.takeBack(state)) {
            throw new IllegalStateException("no state is remembered");
        }
        return history.count;
    }

    // ---- what would be

    public int wouldBring() {
        if (!text.isPlayable()) {
            return NONE;
        }
        trial.copyFrom(state);
        trial.goAll(text);
        return trial.points - state.points;
    }

    public int bestMixing(int d) throws IndexOutOfBoundsException {
        checkDesk(d);
        return bestSetting(d, MIXING);
    }

    public int bestLength(int d) throws IndexOutOfBoundsException {
        checkDesk(d);
        return bestSetting(d, LENGTH);
    }

    public int sharing(int d, int p) throws IndexOutOfBoundsException {
        checkDesk(d);
        checkPlace(p);
        int note = state.noteFor(d, p);
        int others = 0;
        for (int q = 0; q < PLACES; q++) {
            if (q != p && state.noteFor(d, q) == note) {
                others |= 1 << q;
            }
        }
        return others;
    }

    public int holds(int p) throws IndexOutOfBoundsException {
        checkPlace(p);
        trial.copyFrom(state);
        boolean guess = trial.guessFor(p);
        for (int k = 1; k <= MOST_HOLD; k++) {
            trial.go(p, !guess);
            if (trial.guessFor(p) != guess) {
                return k;
            }
        }
        return MOST_HOLD + 1;
    }

    public int worst() {
        int found = NONE;
        int most = 0;
        for (int p = 0; p < PLACES; p++) {
            int wrong = state.goneAt[p] - state.rightAt[p];
            if (wrong > most) {
                most = wrong;
                found = p;
            }
        }
        return found;
    }

    // ---- scripts, simulations

    public int runScript(int n, long script) throws IllegalArgumentException {
        if (n < 1 || n > MOST_COMMANDS) {
            throw new IllegalArgumentException("no such number of commands");
        }
        if (script < 0 || withoutLastGroups(script, n) != 0) {
            throw new IllegalArgumentException("no script of so many commands");
        }
        trial.copyFrom(state);
        for (int k = 0; k < n; k++) {
            if (!Script.succeeds(trial, (int) (withoutLastGroups(script, n - 1 - k) % GROUP))) {
                return k;
            }
        }
        return NONE;
    }

    public int simulate(long seed, int m) throws IllegalArgumentException {
        if (m < 1 || m > MOST_BRANCHES) {
            throw new IllegalArgumentException("no such number of branches");
        }
        trial.copyFrom(state);
        long x = seed;
        boolean taken = false;
        for (int k = 0; k < m; k++) {
            x = x * 6364136223846793005L + 1442695040888963407L;
            int r = (int) (x >>> 33);
            int p = r % 8;
            taken = r / 8 % 8 < p || !taken;
            trial.go(p, taken);
        }
        int clashes = trial.allClashes() - state.allClashes();
        return 1000 * (trial.right - state.right) + Math.min(clashes, 999);
    }

    // ---- save slots

    public int save(int slot) throws IndexOutOfBoundsException {
        checkSlot(slot);
        slots[slot].copyFrom(state);
        saved[slot] = true;
        return state.gone;
    }

    public int restore(int slot) throws IndexOutOfBoundsException, IllegalStateException {
        checkSlot(slot);
        if (!saved[slot]) {
            throw new IllegalStateException("nothing is saved in this slot");
        }
        state.copyFrom(slots[slot]);
        history.count = 0;
        return state.gone;
    }

    // ---- helpers

    private static boolean isDesk(int d) {
        return d >= 0 && d < DESKS;
    }

    private static boolean isPlace(int p) {
        return p >= 0 && p < PLACES;
    }

    private static boolean isDeskSetting(int what, int v) {
        return what >= 0 && what < SETTINGS && v >= 0 && v <= DESK_MOST[what];
    }

    private static boolean isCommonSetting(int what, int v) {
        return what >= 0 && what < SETTINGS && v >= COMMON_LEAST[what] && v <= COMMON_MOST[what];
    }

    private static void checkDesk(int d) {
        if (!isDesk(d)) {
            throw new IndexOutOfBoundsException("no such desk");
        }
    }

    private static void checkPlace(int p) {
        if (!isPlace(p)) {
            throw new IndexOutOfBoundsException("no such place");
        }
    }

    private static void checkSlot(int slot) {
        if (slot < 0 || slot >= SLOTS) {
            throw new IndexOutOfBoundsException("no such save slot");
        }
    }

    private void checkNote(int i) {
        if (!state.isNote(i)) {
            throw new IndexOutOfBoundsException("no such note");
        }
    }

    /** The value of a desk's setting with which the text brings most points from the beginning. */
    private int bestSetting(int d, int what) {
        if (!text.isPlayable()) {
            return NONE;
        }
        int best = NONE;
        int most = 0;
        for (int v = 0; v <= DESK_MOST[what]; v++) {
            trial.copyFrom(state);
            trial.changeDesk(d, what, v);
            trial.goAll(text);
            if (v == 0 || trial.points > most) {
                most = trial.points;
                best = v;
            }
        }
        return best;
    }

    /** The script without its last groups. */
    private static long withoutLastGroups(long script, int groups) {
        long rest = script;
        for (int k = 0; k < groups; k++) {
            rest /= GROUP;
        }
        return rest;
    }

    /**
     * The bits of the float (part / whole), 0 <= part <= whole. An object's counts stay far below 2^24:
     * so they are floats themselves, and no quotient lies in the middle between two floats.
     */
    private static int quotientBits(int part, int whole) {
        if (part <= 0 || whole <= 0) {
            return 0;
        }
        long scaled = part;
        int exponent = 127;
        for (int k = 0; k < 32 && scaled < whole; k++) {
            scaled *= 2;
            exponent--;
        }
        long bits = ((scaled << 24) + whole) / (2L * whole);
        // The highest of the 24 bits is not written: it makes the exponent greater by 1.
        return (int) (bits + ((long) (exponent - 1) << 23));
    }

    /** The text buffer, and what was found when it was read last. */
    private static final class Text {
        private static final int MOST_CHARACTERS = 80;
        private static final int MOST_OPEN = 4;

        private static final int FIRST_ITEM = 0;
        private static final int ITEM_OR_END = 1;
        private static final int SIGN = 2;
        private static final int DIGIT = 3;

        final int[] codes = new int[MOST_CHARACTERS];
        int length;

        /** The branches one after the other: 2 * place, plus 1 if taken; worth reading if all fit in. */
        final int[] steps = new int[MOST_BRANCHES];
        int stepCount;

        /** For each open parenthesis the number of steps before it. */
        private final int[] starts = new int[MOST_OPEN];
        private int open;
        private int letter;
        private int expected;

        boolean add(int c) {
            if (length >= MOST_CHARACTERS) {
                return false;
            }
            codes[length] = c;
            length++;
            return true;
        }

        boolean isPlayable() {
            return read() == NONE && stepCount <= MOST_BRANCHES;
        }

        /** Finds the steps; returns the error position. */
        int read() {
            stepCount = 0;
            open = 0;
            expected = FIRST_ITEM;
            for (int k = 0; k < length; k++) {
                if (!readCharacter(codes[k])) {
                    return k;
                }
            }
            boolean complete = open == 0 && (expected == FIRST_ITEM || expected == ITEM_OR_END);
            return complete ? NONE : length;
        }

        private boolean readCharacter(int c) {
            switch (expected) {
                case SIGN: return readSign(c);
                case DIGIT: return readDigit(c);
                default: return readItem(c);
            }
        }

        private boolean readItem(int c) {
            if (c >= 'a' && c <= 'z') {
                letter = c - 'a';
                expected = SIGN;
                return true;
            }
            if (c == '(' && open < MOST_OPEN) {
                starts[open] = stepCount;
                open++;
                expected = FIRST_ITEM;
                return true;
            }
            if (c == ')' && open > 0 && expected == ITEM_OR_END) {
                expected = DIGIT;
                return true;
            }
            return false;
        }

        private boolean readSign(int c) {
            if (c != '+' && c != '-') {
                return false;
            }
            if (stepCount < MOST_BRANCHES) {
                steps[stepCount] = 2 * letter + (c == '+' ? 1 : 0);
            }
            stepCount++;
            expected = ITEM_OR_END;
            return true;
        }

        private boolean readDigit(int c) {
            if (c < '2' || c > '9' || open < 1) {
                return false;
            }
            open--;
            repeatFrom(starts[open], c - '0');
            expected = ITEM_OR_END;
            return true;
        }

        /** Repeats the steps from there on, so that they stand there so many times in all. */
        private void repeatFrom(int start, int times) {
            int span = stepCount - start;
            int end = start + span * times;
            if (end <= MOST_BRANCHES) {
                for (int k = stepCount; k < end; k++) {
                    steps[k] = steps[k - span];
                }
            }
            stepCount = end;
        }
    }

    /** One desk: its settings, notes and paths, and what was counted with them. */
    private static final class Desk {
        /** As many as there are with the greatest size. */
        private static final int MOST_NOTES = 64;

        final int[] settings = new int[SETTINGS];
        final int[] strengths = new int[MOST_NOTES];
        final int[] lastPlaces = new int[MOST_NOTES];
        final int[] uses = new int[MOST_NOTES];
        final int[] rights = new int[MOST_NOTES];
        /** A common path stands at the place 0. */
        final int[] paths = new int[PLACES];
        int clashes;
        int right;

        void copyFrom(Desk other) {
            System.arraycopy(other.settings, 0, settings, 0, SETTINGS);
            System.arraycopy(other.strengths, 0, strengths, 0, MOST_NOTES);
            System.arraycopy(other.lastPlaces, 0, lastPlaces, 0, MOST_NOTES);
            System.arraycopy(other.uses, 0, uses, 0, MOST_NOTES);
            System.arraycopy(other.rights, 0, rights, 0, MOST_NOTES);
            System.arraycopy(other.paths, 0, paths, 0, PLACES);
            clashes = other.clashes;
            right = other.right;
        }

        void beginAnew(int middle) {
            Arrays.fill(strengths, middle - 1);
            Arrays.fill(lastPlaces, NONE);
            Arrays.fill(uses, 0);
            Arrays.fill(rights, 0);
            Arrays.fill(paths, 0);
            clashes = 0;
            right = 0;
        }

        int countUsed() {
            int count = 0;
            for (int i = 0; i < MOST_NOTES; i++) {
                if (uses[i] > 0) {
                    count++;
                }
            }
            return count;
        }

        int pathFor(int p) {
            return paths[settings[OWN] == 1 ? p : 0];
        }

        int noteFor(int p, int size) {
            int path = pathFor(p);
            int mixed;
            switch (settings[MIXING]) {
                case 0: mixed = p; break;
                case 1: mixed = path; break;
                case 2: mixed = p + path; break;
                case 3: mixed = p ^ path; break;
                default: mixed = (p << settings[LENGTH]) + path; break;
            }
            return mixed & ((1 << size) - 1);
        }

        /** The note i of the desk is used for a branch at the place p. */
        void use(int i, int p, boolean taken, int middle) {
            if (uses[i] > 0 && lastPlaces[i] != p) {
                clashes++;
            }
            uses[i]++;
            lastPlaces[i] = p;
            if (strengths[i] >= middle == taken) {
                rights[i]++;
                right++;
            }
            if (taken) {
                strengths[i] = Math.min(strengths[i] + 1, 2 * middle - 1);
            } else {
                strengths[i] = Math.max(strengths[i] - 1, 0);
            }
        }

        void changePath(int p, boolean taken) {
            int next = 2 * pathFor(p) + (taken ? 1 : 0);
            paths[settings[OWN] == 1 ? p : 0] = next & ((1 << settings[LENGTH]) - 1);
        }
    }

    /** All that an action can change and undo can take back. */
    private static final class State {
        final int[] settings = new int[SETTINGS];
        final Desk[] desks = new Desk[DESKS];
        final int[] choosers = new int[PLACES];
        final int[] goneAt = new int[PLACES];
        final int[] takenAt = new int[PLACES];
        final int[] rightAt = new int[PLACES];
        int gone;
        int right;
        int points;
        /** The right guesses behind the last wrong one. */
        int series;
        int longestSeries;

        State() {
            settings[SIZE] = 4;
            settings[MIDDLE] = 2;
            settings[PENALTY] = 2;
            for (int d = 0; d < DESKS; d++) {
                desks[d] = new Desk();
            }
            desks[1].settings[MIXING] = 3;
            desks[1].settings[LENGTH] = 4;
            beginAnew();
        }

        void copyFrom(State other) {
            System.arraycopy(other.settings, 0, settings, 0, SETTINGS);
            for (int d = 0; d < DESKS; d++) {
                desks[d].copyFrom(other.desks[d]);
            }
            System.arraycopy(other.choosers, 0, choosers, 0, PLACES);
            System.arraycopy(other.goneAt, 0, goneAt, 0, PLACES);
            System.arraycopy(other.takenAt, 0, takenAt, 0, PLACES);
            System.arraycopy(other.rightAt, 0, rightAt, 0, PLACES);
            gone = other.gone;
            right = other.right;
            points = other.points;
            series = other.series;
            longestSeries = other.longestSeries;
        }

        void beginAnew() {
            for (int d = 0; d < DESKS; d++) {
                desks[d].beginAnew(settings[MIDDLE]);
            }
            Arrays.fill(choosers, 1);
            Arrays.fill(goneAt, 0);
            Arrays.fill(takenAt, 0);
            Arrays.fill(rightAt, 0);
            gone = 0;
            right = 0;
            points = 0;
            series = 0;
            longestSeries = 0;
        }

        void changeDesk(int d, int what, int v) {
            desks[d].settings[what] = v;
            beginAnew();
        }

        void changeBoth(int what, int v) {
            settings[what] = v;
            beginAnew();
        }

        boolean isNote(int i) {
            return i >= 0 && i < 1 << settings[SIZE];
        }

        boolean isStrength(int v) {
            return v >= 0 && v < 2 * settings[MIDDLE];
        }

        int allClashes() {
            return desks[0].clashes + desks[1].clashes;
        }

        int noteFor(int d, int p) {
            return desks[d].noteFor(p, settings[SIZE]);
        }

        private boolean deskSays(int d, int p) {
            Desk desk = desks[d];
            return desk.strengths[desk.noteFor(p, settings[SIZE])] >= settings[MIDDLE];
        }

        boolean guessFor(int p) {
            return deskSays(choosers[p] < 2 ? 0 : 1, p);
        }

        /** A branch goes its way; returns whether the guess was right. */
        boolean go(int p, boolean taken) {
            boolean first = deskSays(0, p);
            boolean second = deskSays(1, p);
            boolean guessed = (choosers[p] < 2 ? first : second) == taken;
            countGuess(p, taken, guessed);
            if (first != second) {
                moveChooser(p, second == taken);
            }
            for (int d = 0; d < DESKS; d++) {
                desks[d].use(noteFor(d, p), p, taken, settings[MIDDLE]);
                desks[d].changePath(p, taken);
            }
            return guessed;
        }

        void goAll(Text trace) {
            for (int k = 0; k < trace.stepCount && k < MOST_BRANCHES; k++) {
                int step = trace.steps[k];
                go(step / 2, step % 2 == 1);
            }
        }

        private void countGuess(int p, boolean taken, boolean guessed) {
            gone++;
            goneAt[p]++;
            if (taken) {
                takenAt[p]++;
            }
            if (guessed) {
                right++;
                rightAt[p]++;
                points++;
                series++;
                longestSeries = Math.max(longestSeries, series);
            } else {
                points -= settings[PENALTY];
                series = 0;
            }
        }

        private void moveChooser(int p, boolean toTheLastDesk) {
            if (toTheLastDesk) {
                choosers[p] = Math.min(choosers[p] + 1, 3);
            } else {
                choosers[p] = Math.max(choosers[p] - 1, 0);
            }
        }
    }

    /** The states before the last actions, in a ring. */
    private static final class History {
        private static final int MOST_STATES = 14;

        private final State[] ring = new State[MOST_STATES];
        private int oldest;
        int count;

        History() {
            for (int k = 0; k < MOST_STATES; k++) {
                ring[k] = new State();
            }
        }

        void remember(State state) {
            if (count == MOST_STATES) {
                oldest = (oldest + 1) % MOST_STATES;
                count--;
            }
            ring[(oldest + count) % MOST_STATES].copyFrom(state);
            count++;
        }

        /** Makes the state the last one remembered; false if there is none. */
        boolean takeBack(State state) {
            if (count == 0) {
                return false;
            }
            count--;
            state.copyFrom(ring[(oldest + count) % MOST_STATES]);
            return true;
        }
    }

    /** The commands of a script. A group has the digits d1 to d5; pp is d2 d3, ii is d3 d4. */
    private static final class Script {
        static boolean succeeds(State s, int group) {
            int d2 = group / 1000 % 10;
            int d3 = group / 100 % 10;
            int d4 = group / 10 % 10;
            int d5 = group % 10;
            int pp = 10 * d2 + d3;
            int ii = 10 * d3 + d4;
            switch (group / 10000) {
                case 1: return goOften(s, pp, d4, d5);
                case 2: return d5 == 0 && changeDesk(s, d2, d3, d4);
                case 3: return d4 == 0 && d5 == 0 && changeBoth(s, d2, d3);
                case 4: return group % 10000 == 0 && forgetAll(s);
                case 5: return makeStrength(s, d2, ii, d5);
                case 6: return d5 == 0 && isGuess(s, pp, d4);
                case 7: return d2 == 0 && s.right >= group % 1000;
                case 8: return isDesk(d2) && s.isNote(ii) && s.desks[d2].strengths[ii] >= d5;
                case 9: return pp == 0 && s.points >= group % 100;
                default: return false;
            }
        }

        private static boolean goOften(State s, int p, int way, int times) {
            if (!isPlace(p) || way > 1 || times < 1) {
                return false;
            }
            for (int k = 0; k < times; k++) {
                s.go(p, way == 1);
            }
            return true;
        }

        private static boolean changeDesk(State s, int d, int what, int v) {
            if (!isDesk(d) || !isDeskSetting(what, v)) {
                return false;
            }
            s.changeDesk(d, what, v);
            return true;
        }

        private static boolean changeBoth(State s, int what, int v) {
            if (!isCommonSetting(what, v)) {
                return false;
            }
            s.changeBoth(what, v);
            return true;
        }

        private static boolean forgetAll(State s) {
            s.beginAnew();
            return true;
        }

        private static boolean makeStrength(State s, int d, int i, int v) {
            if (!isDesk(d) || !s.isNote(i) || !s.isStrength(v)) {
                return false;
            }
            s.desks[d].strengths[i] = v;
            return true;
        }

        private static boolean isGuess(State s, int p, int way) {
            return isPlace(p) && way <= 1 && s.guessFor(p) == (way == 1);
        }
    }
}
