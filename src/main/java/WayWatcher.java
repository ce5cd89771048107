import java.util.Arrays;

/**
 * Looks at all ways that a small machine may go: which of its states are such that some way, or
 * every way, goes on as a formula says, among the ways alone that are fair, and shows a way for
 * what it says.
 *
 * <p>A set of states is a long, bit s for state s.
 */
public final class WayWatcher {
    private static final int STATES = 64;
    private static final int BITS = 6;
    private static final int MAX_MOVES = 16;
    private static final int MAX_FORMULAS = 32;
    private static final int MAX_GOALS = 3;
    private static final int MAX_SHOWN = 250;
    private static final int NONE = -1;
    private static final long ALL_STATES = -1L;

    private static final int VARIABLE = 0;
    private static final int ALL = 1;
    private static final int NOT = 2;
    private static final int BOTH = 3;
    private static final int EITHER = 4;
    private static final int SOME_NEXT = 5;
    private static final int SOME_UNTIL = 6;
    private static final int SOME_ALWAYS = 7;
    private static final int SOME_EVER = 8;
    private static final int EACH_NEXT = 9;
    private static final int EACH_UNTIL = 10;
    private static final int EACH_ALWAYS = 11;
    private static final int EACH_EVER = 12;

    private final Machine machine;
    private final FormulaRow formulas;
    private final Fairness fairness;
    private final Judge judge;
    private final Path path;
    private final Walker walker;

    public WayWatcher() {
        machine = new Machine();
        formulas = new FormulaRow();
        fairness = new Fairness();
        judge = new Judge(machine, formulas, fairness);
        path = new Path();
        walker = new Walker(machine, formulas, fairness, judge, path);
    }

    /** One more move: how many there are. */
    public int move(int on, int off, int sets, int clears, int any)
            throws IllegalArgumentException, IllegalStateException {
        if (!isMask(on) || !isMask(off) || !isMask(sets) || !isMask(clears) || !isMask(any)) {
            throw new IllegalArgumentException("a mask is not 0 .. 63");
        }
        if ((sets & clears) != 0) {
            throw new IllegalArgumentException("a bit is both set and cleared");
        }
        if (machine.isFull()) {
            throw new IllegalStateException("there are 16 moves");
        }
        judge.forget();
        return machine.add(on, off, sets, clears, any);
    }

    /** The followers of a state. */
    public long followers(int s) throws IllegalArgumentException {
        if (!isState(s)) {
            throw new IllegalArgumentException("no such state");
        }
        return machine.nextOf(s);
    }

    /** A formula: its number. */
    public int formula(int kind, int f, int g)
            throws IllegalArgumentException, IllegalStateException {
        if (!formulas.canBeMade(kind, f, g)) {
            throw new IllegalArgumentException("no such kind, or a part is no formula");
        }
        if (formulas.isFull()) {
            throw new IllegalStateException("there are 32 formulas");
        }
        return formulas.add(kind, f, g);
    }

    /** Formula f is one more of the fairness: how many there are. */
    public int fair(int f) throws IllegalArgumentException, IllegalStateException {
        if (!formulas.has(f) || !formulas.isPlain(f)) {
            throw new IllegalArgumentException("no such formula, or it speaks of ways");
        }
        if (fairness.isFull()) {
            throw new IllegalStateException("there are 3 formulas of the fairness");
        }
        judge.settle(f);
        long goal = judge.settled(f);
        judge.forget();
        return fairness.add(goal);
    }

    /** There is no fairness any more. */
    public void unfair() {
        judge.forget();
        fairness.clear();
    }

    /** The states in which a formula holds, by the moves and the fairness as they are now. */
    public long states(int f) throws IllegalArgumentException {
        if (!formulas.has(f)) {
            throw new IllegalArgumentException("no such formula");
        }
        judge.settle(f);
        return judge.settled(f);
    }

    /** The states in which a fair way begins. */
    public long begins() {
        judge.refresh();
        return judge.fairStates();
    }

    /** The way of formula f in state s is shown from now on: how many states it has. */
    public int show(int f, int s)
            throws IllegalArgumentException, IllegalStateException, UnsupportedOperationException {
        path.clear();
        if (!formulas.has(f) || !isState(s)) {
            throw new IllegalArgumentException("no such formula or state");
        }
        judge.settle(f);
        if (!walker.setOut(f, s)) {
            throw new IllegalStateException("there is no way to show");
        }
        walker.goRound();
        if (path.isTooLong()) {
            path.clear();
            throw new UnsupportedOperationException("the way has more than 250 states");
        }
        return path.length();
    }

    /** State i of the shown way. */
    public int shown(int i) throws IndexOutOfBoundsException {
        if (i < 0 || i >= path.length()) {
            throw new IndexOutOfBoundsException("no such state of the shown way");
        }
        return path.at(i);
    }

    /** Which state of the shown way its loop begins with, -1 when none is shown. */
    public int loop() {
        return path.loopStart();
    }

    private static boolean isState(int s) {
        return s >= 0 && s < STATES;
    }

    private static boolean isMask(int mask) {
        return mask >= 0 && mask < 1 << BITS;
    }

    private static boolean contains(long set, int s) {
        return (set >>> s & 1L) != 0L;
    }

    /** The least state of a set; 0 for the empty set, so that the answer can always be an index. */
    private static int least(long set) {
        return Long.numberOfTrailingZeros(set) & STATES - 1;
    }

    /** The moves, kept as what they lead to: nothing ever asks for a single move again. */
    private static final class Machine {
        private final long[] behindMoves = new long[STATES];
        private final long[] sources = new long[STATES];
        private int moves;

        Machine() {
            linkSources();
        }

        boolean isFull() {
            return moves >= MAX_MOVES;
        }

        int add(int on, int off, int sets, int clears, int any) {
            for (int s = 0; s < STATES; s++) {
                if ((s & on) == on && (s & off) == 0) {
                    behindMoves[s] |= spread((s | sets) & ~clears & ~any, any);
                }
            }
            linkSources();
            moves++;
            return moves;
        }

        /** All states that are as s but for the bits of any, which are all 0 in s. */
        private static long spread(int s, int any) {
            long set = 1L << s;
            for (int bit = 0; bit < BITS; bit++) {
                int weight = 1 << bit;
                if ((any & weight) != 0) {
                    set |= set << weight;
                }
            }
            return set;
        }

        /** The followers of s. */
        long nextOf(int s) {
            return behindMoves[s] == 0L ? 1L << s : behindMoves[s];
        }

        // Going backwards is what every search does, so it is made ready once for each move.
        private void linkSources() {
            Arrays.fill(sources, 0L);
            for (int s = 0; s < STATES; s++) {
                long rest = nextOf(s);
                for (int k = 0; k < STATES && rest != 0L; k++) {
                    sources[least(rest)] |= 1L << s;
                    rest &= rest - 1L;
                }
            }
        }

        /** The states with some follower in the set. */
        long sourcesOf(long set) {
            long found = 0L;
            long rest = set;
            for (int k = 0; k < STATES && rest != 0L; k++) {
                found |= sources[least(rest)];
                rest &= rest - 1L;
            }
            return found;
        }

        /** The states from which some steps, or none, lead to the goal, through one set till then. */
        long reaching(long goal, long through) {
            long found = goal;
            long newest = goal;
            for (int k = 0; k < STATES && newest != 0L; k++) {
                newest = sourcesOf(newest) & through & ~found;
                found |= newest;
            }
            return found;
        }
    }

    /** The formulas as they were made. */
    private static final class FormulaRow {
        private final int[] kinds = new int[MAX_FORMULAS];
        private final int[] firsts = new int[MAX_FORMULAS];
        private final int[] seconds = new int[MAX_FORMULAS];
        private final boolean[] plain = new boolean[MAX_FORMULAS];
        private int count;

        boolean isFull() {
            return count >= MAX_FORMULAS;
        }

        boolean has(int f) {
            return f >= 0 && f < count;
        }

        boolean canBeMade(int kind, int f, int g) {
            if (kind < VARIABLE || kind > EACH_EVER) {
                return false;
            }
            if (kind == VARIABLE) {
                return f >= 0 && f < BITS;
            }
            return (kind == ALL || has(f)) && (!usesSecond(kind) || has(g));
        }

        int add(int kind, int f, int g) {
            int number = count;
            kinds[number] = kind;
            // A part that does not matter may be any int: it must not become an index.
            firsts[number] = kind == ALL ? 0 : f;
            seconds[number] = usesSecond(kind) ? g : 0;
            plain[number] = partsArePlain(kind, f, g);
            count++;
            return number;
        }

        private boolean partsArePlain(int kind, int f, int g) {
            switch (kind) {
                case VARIABLE:
                case ALL:
                    return true;
                case NOT:
                    return plain[f];
                case BOTH:
                case EITHER:
                    return plain[f] && plain[g];
                default:
                    return false;
            }
        }

        private static boolean usesSecond(int kind) {
            return kind == BOTH || kind == EITHER || kind == SOME_UNTIL || kind == EACH_UNTIL;
        }

        /** Whether neither the formula nor anything that it is made of speaks of ways. */
        boolean isPlain(int f) {
            return plain[f];
        }

        int kindOf(int f) {
            return kinds[f];
        }

        int firstOf(int f) {
            return firsts[f];
        }

        int secondOf(int f) {
            return seconds[f];
        }
    }

    /** The sets that a fair way meets without end: a plain formula's set never changes. */
    private static final class Fairness {
        private final long[] goals = new long[MAX_GOALS];
        private int count;

        boolean isFull() {
            return count >= MAX_GOALS;
        }

        int add(long goal) {
            goals[count] = goal;
            count++;
            return count;
        }

        void clear() {
            count = 0;
        }

        int count() {
            return count;
        }

        long goal(int i) {
            return goals[i];
        }
    }

    /** Finds where formulas hold, and keeps it till moves or fairness change. */
    private static final class Judge {
        private static final long[] VARIABLE_STATES = {
            0xAAAAAAAAAAAAAAAAL, 0xCCCCCCCCCCCCCCCCL, 0xF0F0F0F0F0F0F0F0L,
            0xFF00FF00FF00FF00L, 0xFFFF0000FFFF0000L, 0xFFFFFFFF00000000L
        };

        private final Machine machine;
        private final FormulaRow formulas;
        private final Fairness fairness;
        private final long[] holds = new long[MAX_FORMULAS];
        private int settledCount;
        private long fairStates;
        private boolean fairStatesKnown;

        Judge(Machine machine, FormulaRow formulas, Fairness fairness) {
            this.machine = machine;
            this.formulas = formulas;
            this.fairness = fairness;
        }

        void forget() {
            settledCount = 0;
            fairStatesKnown = false;
        }

        /** Finds the states in which a fair way begins, which all formulas that speak of ways need. */
        void refresh() {
            if (!fairStatesKnown) {
                fairStates = someAlways(ALL_STATES);
                fairStatesKnown = true;
            }
        }

        /** The states in which a fair way begins, as last refreshed. */
        long fairStates() {
            return fairStates;
        }

        /** Settles formula f; its parts have lesser numbers, so going upwards settles them first. */
        void settle(int f) {
            refresh();
            for (int i = settledCount; i <= f; i++) {
                holds[i] = judged(i);
            }
            settledCount = Math.max(settledCount, f + 1);
        }

        /** Where a settled formula holds. */
        long settled(int f) {
            return holds[f];
        }

        private long judged(int f) {
            int kind = formulas.kindOf(f);
            long a = holds[formulas.firstOf(f)];
            long b = holds[formulas.secondOf(f)];
            switch (kind) {
                case VARIABLE:
                    return VARIABLE_STATES[formulas.firstOf(f)];
                case ALL:
                    return ALL_STATES;
                case NOT:
                    return ~a;
                case BOTH:
                    return a & b;
                case EITHER:
                    return a | b;
                case SOME_NEXT:
                    return someNext(a);
                case SOME_UNTIL:
                    return someUntil(a, b);
                case SOME_ALWAYS:
                    return someAlways(a);
                case SOME_EVER:
                    return someUntil(ALL_STATES, a);
                case EACH_NEXT:
                    return ~someNext(~a);
                case EACH_UNTIL:
                    return ~(someUntil(~b, ~a & ~b) | someAlways(~b));
                case EACH_ALWAYS:
                    return ~someUntil(ALL_STATES, ~a);
                default:
                    return ~someAlways(~a);
            }
        }

        // Whether a way is fair does not hang on how it starts: what is left of it when it has
        // come to the set must be a fair way, and is enough.
        long someNext(long set) {
            return machine.sourcesOf(set & fairStates);
        }

        long someUntil(long through, long goal) {
            return machine.reaching(goal & fairStates, through);
        }

        /**
         * The greatest set within the given one each of whose states has a follower in it, and reaches
         * every goal within it. Each turn but the last takes away a state.
         */
        long someAlways(long set) {
            long left = set;
            for (int turn = 0; turn <= STATES; turn++) {
                long kept = left & machine.sourcesOf(left);
                for (int i = 0; i < fairness.count(); i++) {
                    kept &= machine.reaching(kept & fairness.goal(i), kept);
                }
                if (kept == left) {
                    break;
                }
                left = kept;
            }
            return left;
        }
    }

    /** The shown way. */
    private static final class Path {
        private final int[] row = new int[MAX_SHOWN];
        private int length;
        private int loopStart = NONE;

        void clear() {
            length = 0;
            loopStart = NONE;
        }

        /** States beyond the limit are counted but not kept: such a way is never shown. */
        void append(int s) {
            if (length < MAX_SHOWN) {
                row[length] = s;
            }
            length++;
        }

        /** Takes the last state away, which is where the loop begins. */
        void close(int start) {
            length--;
            loopStart = start;
        }

        boolean isTooLong() {
            return length > MAX_SHOWN;
        }

        int length() {
            return length;
        }

        int at(int i) {
            return row[i];
        }

        int loopStart() {
            return loopStart;
        }
    }

    /** Lays the path for a formula: first what comes before the loop, then the loop. */
    private static final class Walker {
        private final Machine machine;
        private final FormulaRow formulas;
        private final Fairness fairness;
        private final Judge judge;
        private final Path path;
        private final long[] layers = new long[STATES];
        private final int[] roundStarts = new int[STATES];
        private long ground;
        private int here;

        Walker(Machine machine, FormulaRow formulas, Fairness fairness, Judge judge, Path path) {
            this.machine = machine;
            this.formulas = formulas;
            this.fairness = fairness;
            this.judge = judge;
            this.path = path;
        }

        /** Goes from s to where the loop's rounds begin; false if formula f has no way there. */
        boolean setOut(int f, int s) {
            long a = judge.settled(formulas.firstOf(f));
            long b = judge.settled(formulas.secondOf(f));
            here = s;
            switch (formulas.kindOf(f)) {
                case SOME_NEXT:
                    return setOutNext(a);
                case SOME_UNTIL:
                    return setOutUntil(a, b);
                case SOME_ALWAYS:
                    return setOutAlways(a);
                case SOME_EVER:
                    return setOutUntil(ALL_STATES, a);
                case EACH_NEXT:
                    return setOutNext(~a);
                case EACH_UNTIL:
                    return setOutUntil(~b, ~a & ~b) || setOutAlways(~b);
                case EACH_ALWAYS:
                    return setOutUntil(ALL_STATES, ~a);
                case EACH_EVER:
                    return setOutAlways(~a);
                default:
                    return false;
            }
        }

        private boolean setOutNext(long set) {
            long choice = machine.nextOf(here) & judge.fairStates() & set;
            if (choice == 0L) {
                return false;
            }
            path.append(here);
            stepTo(least(choice));
            ground = judge.fairStates();
            return true;
        }

        private boolean setOutUntil(long through, long goal) {
            long holding = judge.someUntil(through, goal);
            if (!contains(holding, here)) {
                return false;
            }
            path.append(here);
            goTo(goal & judge.fairStates(), holding);
            ground = judge.fairStates();
            return true;
        }

        private boolean setOutAlways(long set) {
            long holding = judge.someAlways(set);
            if (!contains(holding, here)) {
                return false;
            }
            path.append(here);
            ground = holding;
            return true;
        }

        /** Rounds within the ground till one would begin where an earlier one began. */
        void goRound() {
            Arrays.fill(roundStarts, NONE);
            // Each round begins in another state, so there are no more rounds than states.
            for (int k = 0; k < STATES && roundStarts[here] == NONE; k++) {
                roundStarts[here] = path.length() - 1;
                stepTo(least(machine.nextOf(here) & ground));
                for (int i = 0; i < fairness.count(); i++) {
                    goTo(fairness.goal(i) & ground, ground);
                }
            }
            path.close(roundStarts[here]);
        }

        private void goTo(long goal, long within) {
            for (int left = layOut(goal, within); left > 0; left--) {
                stepTo(least(machine.nextOf(here) & layers[left - 1]));
            }
        }

        /** Layer d has the states from which d steps are left; how many are left from here. */
        private int layOut(long goal, long within) {
            long seen = 0L;
            long layer = goal;
            for (int d = 0; d < STATES && layer != 0L; d++) {
                layers[d] = layer;
                if (contains(layer, here)) {
                    return d;
                }
                seen |= layer;
                layer = machine.sourcesOf(layer) & within & ~seen;
            }
            // Not come to: whoever sets out holds a set from all of which the goal is reached.
            return 0;
        }

        private void stepTo(int s) {
            here = s;
            path.append(s);
        }
    }
}
