import java.util.ArrayList;
import java.util.List;

/**
 * The document once more, in another way and without care for speed: fair ways are found by what
 * reaches what and back again, not by taking states away, and every answer is found anew.
 */
final class Model {
    private static final long EVERY = -1L;

    private final List<int[]> moves = new ArrayList<>();
    private final List<int[]> formulas = new ArrayList<>();
    private final List<Integer> fairness = new ArrayList<>();
    private final List<Integer> way = new ArrayList<>();
    private int loopAt = -1;

    int move(int on, int off, int sets, int clears, int any) {
        for (int mask : new int[] {on, off, sets, clears, any}) {
            if (mask < 0 || mask > 63) {
                throw new IllegalArgumentException();
            }
        }
        if ((sets & clears) != 0) {
            throw new IllegalArgumentException();
        }
        if (moves.size() == 16) {
            throw new IllegalStateException();
        }
        moves.add(new int[] {on, off, sets, clears, any});
        return moves.size();
    }

    long followers(int s) {
        if (s < 0 || s > 63) {
            throw new IllegalArgumentException();
        }
        long found = 0;
        for (int[] move : moves) {
            for (int t = 0; t < 64; t++) {
                if (leads(move, s, t)) {
                    found |= 1L << t;
                }
            }
        }
        return found == 0 ? 1L << s : found;
    }

    private static boolean leads(int[] move, int s, int t) {
        for (int bit = 0; bit < 6; bit++) {
            boolean was = in(s, bit);
            boolean is = in(t, bit);
            if (in(move[0], bit) && !was || in(move[1], bit) && was) {
                return false;
            }
            boolean due = in(move[2], bit) || !in(move[3], bit) && was;
            if (!in(move[4], bit) && is != due) {
                return false;
            }
        }
        return true;
    }

    int formula(int kind, int f, int g) {
        if (kind < 0 || kind > 12) {
            throw new IllegalArgumentException();
        }
        if (kind == 0 && (f < 0 || f > 5)) {
            throw new IllegalArgumentException();
        }
        if (kind > 1 && !made(f)) {
            throw new IllegalArgumentException();
        }
        if ((kind == 3 || kind == 4 || kind == 6 || kind == 10) && !made(g)) {
            throw new IllegalArgumentException();
        }
        if (formulas.size() == 32) {
            throw new IllegalStateException();
        }
        formulas.add(new int[] {kind, f, g});
        return formulas.size() - 1;
    }

    private boolean made(int f) {
        return f >= 0 && f < formulas.size();
    }

    int fair(int f) {
        if (!made(f) || speaksOfWays(f)) {
            throw new IllegalArgumentException();
        }
        if (fairness.size() == 3) {
            throw new IllegalStateException();
        }
        fairness.add(f);
        return fairness.size();
    }

    private boolean speaksOfWays(int f) {
        boolean[] part = new boolean[32];
        part[f] = true;
        for (int i = f; i >= 0; i--) {
            int[] it = formulas.get(i);
            if (part[i] && it[0] > 4) {
                return true;
            }
            if (part[i] && it[0] > 1) {
                part[it[1]] = true;
            }
            if (part[i] && it[0] > 2) {
                part[it[2]] = true;
            }
        }
        return false;
    }

    void unfair() {
        fairness.clear();
    }

    long states(int f) {
        if (!made(f)) {
            throw new IllegalArgumentException();
        }
        return holding(f, true);
    }

    long begins() {
        return fairWithin(EVERY);
    }

    /** With no ways asked for, formulas that speak of ways are left out: fairness has none. */
    private long holding(int f, boolean ways) {
        long[] holds = new long[f + 1];
        long fair = ways ? begins() : 0;
        for (int i = 0; i <= f; i++) {
            int[] it = formulas.get(i);
            long a = it[0] > 1 ? holds[it[1]] : 0;
            long b = it[0] == 3 || it[0] == 4 || it[0] == 6 || it[0] == 10 ? holds[it[2]] : 0;
            if (it[0] < 5) {
                holds[i] = plain(it, a, b);
            } else if (ways) {
                holds[i] = ofWays(it[0], a, b, fair);
            }
        }
        return holds[f];
    }

    private static long plain(int[] it, long a, long b) {
        long found = 0;
        for (int s = 0; s < 64; s++) {
            boolean is = it[0] == 0 ? in(s, it[1])
                    : it[0] == 1 ? true
                    : it[0] == 2 ? !in(a, s)
                    : it[0] == 3 ? in(a, s) && in(b, s)
                    : in(a, s) || in(b, s);
            found |= is ? 1L << s : 0;
        }
        return found;
    }

    private long ofWays(int kind, long a, long b, long fair) {
        switch (kind) {
            case 5: return next(a & fair);
            case 6: return until(a, b & fair);
            case 7: return fairWithin(a);
            case 8: return until(EVERY, a & fair);
            case 9: return ~next(~a & fair);
            case 10: return ~until(~b, ~a & ~b & fair) & ~fairWithin(~b);
            case 11: return ~until(EVERY, ~a & fair);
            default: return ~fairWithin(~a);
        }
    }

    private long next(long set) {
        long found = 0;
        for (int s = 0; s < 64; s++) {
            found |= (followers(s) & set) != 0 ? 1L << s : 0;
        }
        return found;
    }

    private long until(long through, long goal) {
        int[] steps = stepsLeft(goal, through | goal);
        long found = 0;
        for (int s = 0; s < 64; s++) {
            found |= steps[s] < 1000 ? 1L << s : 0;
        }
        return found;
    }

    /** Steps from each state to the goal within a set; 1000 where it is not reached. */
    private int[] stepsLeft(long goal, long within) {
        int[] steps = new int[64];
        for (int s = 0; s < 64; s++) {
            steps[s] = in(goal, s) ? 0 : 1000;
        }
        long[] behind = rows(within);
        for (boolean better = true; better;) {
            better = false;
            for (int s = 0; s < 64; s++) {
                for (int t = 0; t < 64; t++) {
                    if (in(behind[s], t) && steps[t] + 1 < steps[s]) {
                        steps[s] = steps[t] + 1;
                        better = true;
                    }
                }
            }
        }
        return steps;
    }

    /** The followers within a set of each of its states. */
    private long[] rows(long within) {
        long[] rows = new long[64];
        for (int s = 0; s < 64; s++) {
            rows[s] = in(within, s) ? followers(s) & within : 0;
        }
        return rows;
    }

    /** Where a fair way within a set begins: from there some state is reached that closes a fair round. */
    private long fairWithin(long within) {
        long[] reach = rows(within);
        for (int k = 0; k < 64; k++) {
            for (int s = 0; s < 64; s++) {
                if (in(reach[s], k)) {
                    reach[s] |= reach[k];
                }
            }
        }
        long cores = 0;
        for (int s = 0; s < 64; s++) {
            cores |= closesFairRound(reach, s) ? 1L << s : 0;
        }
        long found = cores;
        for (int s = 0; s < 64; s++) {
            found |= (reach[s] & cores) != 0 ? 1L << s : 0;
        }
        return found;
    }

    private boolean closesFairRound(long[] reach, int s) {
        if (!in(reach[s], s)) {
            return false;
        }
        for (int f : fairness) {
            long goal = holding(f, false);
            boolean met = false;
            for (int t = 0; t < 64; t++) {
                met |= in(goal, t) && in(reach[s], t) && in(reach[t], s);
            }
            if (!met) {
                return false;
            }
        }
        return true;
    }

    int show(int f, int s) {
        way.clear();
        loopAt = -1;
        if (!made(f) || s < 0 || s > 63) {
            throw new IllegalArgumentException();
        }
        int[] it = formulas.get(f);
        if (it[0] < 5 || in(states(f), s) != it[0] < 9) {
            throw new IllegalStateException();
        }
        long a = states(it[1]);
        long b = it[0] == 6 || it[0] == 10 ? states(it[2]) : 0;
        way.add(s);
        switch (it[0]) {
            case 5: wayNext(a); break;
            case 6: wayUntil(a, b); break;
            case 7: loopWithin(fairWithin(a)); break;
            case 8: wayUntil(EVERY, a); break;
            case 9: wayNext(~a); break;
            case 10:
                if (in(until(~b, ~a & ~b & begins()), s)) {
                    wayUntil(~b, ~a & ~b);
                } else {
                    loopWithin(fairWithin(~b));
                }
                break;
            case 11: wayUntil(EVERY, ~a); break;
            default: loopWithin(fairWithin(~a));
        }
        return checkedLength();
    }

    private int checkedLength() {
        if (way.size() > 250) {
            way.clear();
            loopAt = -1;
            throw new UnsupportedOperationException();
        }
        return way.size();
    }

    private void wayNext(long set) {
        way.add(leastOf(followers(way.get(0)) & begins() & set));
        loopWithin(begins());
    }

    private void wayUntil(long through, long goal) {
        long fair = begins();
        goTo(goal & fair, until(through, goal & fair));
        loopWithin(fair);
    }

    private void goTo(long goal, long within) {
        int[] steps = stepsLeft(goal, within);
        while (steps[last()] > 0) {
            int s = last();
            int t = 0;
            while (!in(followers(s) & within, t) || steps[t] >= steps[s]) {
                t++;
            }
            way.add(t);
        }
    }

    private void loopWithin(long within) {
        List<Integer> starts = new ArrayList<>();
        for (;;) {
            for (int start : starts) {
                if (way.get(start).intValue() == last()) {
                    loopAt = start;
                    way.remove(way.size() - 1);
                    return;
                }
            }
            starts.add(way.size() - 1);
            way.add(leastOf(followers(last()) & within));
            for (int f : fairness) {
                goTo(holding(f, false) & within, within);
            }
        }
    }

    private int last() {
        return way.get(way.size() - 1);
    }

    private static int leastOf(long set) {
        for (int s = 0; s < 64; s++) {
            if (in(set, s)) {
                return s;
            }
        }
        throw new AssertionError("the model chose from nothing");
    }

    int shown(int i) {
        if (i < 0 || i >= way.size()) {
            throw new IndexOutOfBoundsException();
        }
        return way.get(i);
    }

    int loop() {
        return loopAt;
    }

    private static boolean in(long set, int i) {
        return (set >> i & 1) == 1;
    }
}
