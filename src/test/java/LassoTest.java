import java.util.Random;

/**
 * Looks at shown ways by what a way is, not by how it is to be found: each state follows the one
 * before, the loop meets the fairness, and the formula is so on the way, or is not, for kinds 9 to 12.
 */
public final class LassoTest {
    private static final int RUNS = 4800;
    private static final int WAYS = 4;
    /** The document frees what an object answers after so many calls. */
    private static final int MAX_CALLS = 512;

    private final Check check;
    private final Random random;
    private final String name;
    private final int kind;
    private final WayWatcher x = new WayWatcher();
    private final long[] followers = new long[64];
    private final long[] goals = new long[3];
    private int goalCount;
    private long f;
    private long g;
    private int calls;
    private int[] way;
    private int loop;

    private LassoTest(Check check, int run) {
        this.check = check;
        name = "run " + run;
        kind = 5 + run % 8;
        random = new Random(run);
    }

    public static void main(String[] args) {
        Check check = new Check("LassoTest");
        for (int run = 0; run < RUNS; run++) {
            new LassoTest(check, run).lookAtWays();
        }
        check.end();
    }

    private void lookAtWays() {
        int made = prepare();
        long holds = x.states(made);
        // What was asked above, and what is asked of each way beside its states.
        calls = 120 + 2 * WAYS;
        for (int i = 0; i < WAYS; i++) {
            int s = random.nextInt(64);
            if (in(holds, s) == kind < 9) {
                lookAt(made, s);
            } else {
                check.refusesState(name + ": kind " + kind + " in " + s, () -> x.show(made, s));
            }
        }
    }

    private int prepare() {
        Fixtures.literals(x);
        for (int i = random.nextInt(12); i >= 0; i--) {
            int sets = mask();
            x.move(mask(), mask(), sets, mask() & ~sets, random.nextInt(4) == 0 ? mask() : 0);
        }
        for (int i = random.nextInt(4); i > 0; i--) {
            int fair = random.nextInt(12);
            x.fair(fair);
            goals[goalCount++] = x.states(fair);
        }
        int first = x.formula(3 + random.nextInt(2), random.nextInt(12), random.nextInt(12));
        int second = x.formula(3 + random.nextInt(2), random.nextInt(12), random.nextInt(12));
        f = x.states(first);
        g = x.states(second);
        for (int s = 0; s < 64; s++) {
            followers[s] = x.followers(s);
        }
        return x.formula(kind, first, second);
    }

    private int mask() {
        return random.nextInt(64) & random.nextInt(64) & random.nextInt(64);
    }

    private void lookAt(int made, int s) {
        int length = x.show(made, s);
        calls += length;
        if (calls > MAX_CALLS) {
            return;
        }
        way = new int[length];
        for (int i = 0; i < length; i++) {
            way[i] = x.shown(i);
        }
        loop = x.loop();
        String what = name + ": the way of kind " + kind + " in " + s;
        check.equal(what + " begins", way[0], s);
        for (int i = 0; i < length; i++) {
            check.isTrue(what + " step " + i, in(followers[way[i]], at(i + 1)));
        }
        for (int i = 0; i < goalCount; i++) {
            check.isTrue(what + " is fair", everIn(goals[i], loop));
        }
        check.isTrue(what + " says so", saysSo() == kind < 9);
    }

    private int at(int i) {
        return way[i < way.length ? i : loop];
    }

    private boolean everIn(long set, int from) {
        for (int i = from; i < way.length; i++) {
            if (in(set, way[i])) {
                return true;
            }
        }
        return false;
    }

    private boolean saysSo() {
        switch (kind) {
            case 5:
            case 9:
                return in(f, at(1));
            case 6:
            case 10:
                return until();
            case 7:
            case 11:
                return !everIn(~f, 0);
            default:
                return everIn(f, 0);
        }
    }

    private boolean until() {
        for (int s : way) {
            if (in(g, s)) {
                return true;
            }
            if (!in(f, s)) {
                return false;
            }
        }
        return false;
    }

    private static boolean in(long set, int s) {
        return (set >>> s & 1) == 1;
    }
}
