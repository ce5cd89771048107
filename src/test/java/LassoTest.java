import java.util.Random;

/**
 * Looks at shown ways by what a way is, not by how it is to be found: each state follows the one
 * before, the loop meets the fairness, and the formula is so on the way, or is not, for kinds 9 to 12.
 */
public final class LassoTest {
    private static final int RUNS = 600;

    private final Check check;
    private final Random random;
    private final String name;
    private final WayWatcher x = new WayWatcher();
    private final int[] fairness = new int[3];
    private int fairCount;

    private LassoTest(Check check, int run) {
        this.check = check;
        name = "run " + run;
        random = new Random(run);
    }

    public static void main(String[] args) {
        Check check = new Check("LassoTest");
        for (int run = 0; run < RUNS; run++) {
            new LassoTest(check, run).lookAtWays();
        }
        check.end();
    }

    private void lookAtWays() {
        Fixtures.literals(x);
        for (int i = random.nextInt(12); i >= 0; i--) {
            int sets = mask();
            x.move(mask(), mask(), sets, mask() & ~sets, random.nextInt(4) == 0 ? mask() : 0);
        }
        for (int i = random.nextInt(4); i > 0; i--) {
            fairness[fairCount++] = random.nextInt(12);
            x.fair(fairness[fairCount - 1]);
        }
        int f = x.formula(3 + random.nextInt(2), random.nextInt(12), random.nextInt(12));
        int g = x.formula(3 + random.nextInt(2), random.nextInt(12), random.nextInt(12));
        for (int kind = 5; kind <= 12; kind++) {
            int made = x.formula(kind, f, g);
            for (int i = 0; i < 4; i++) {
                lookAt(made, kind, f, g, random.nextInt(64));
            }
        }
    }

    private int mask() {
        return random.nextInt(64) & random.nextInt(64) & random.nextInt(64);
    }

    private void lookAt(int made, int kind, int f, int g, int s) {
        boolean holds = in(x.states(made), s);
        if (holds != kind < 9) {
            check.refusesState(name + ": kind " + kind + " in " + s, () -> x.show(made, s));
            return;
        }
        int length = x.show(made, s);
        String way = name + ": the way of kind " + kind + " in " + s;
        check.equal(way + " begins", x.shown(0), s);
        for (int i = 0; i < length; i++) {
            check.isTrue(way + " step " + i, in(x.followers(x.shown(i)), at(length, i + 1)));
        }
        for (int i = 0; i < fairCount; i++) {
            check.isTrue(way + " is fair", everIn(x.states(fairness[i]), x.loop(), length));
        }
        check.isTrue(way + " says so", saysSo(kind, x.states(f), x.states(g), length) == holds);
    }

    private int at(int length, int i) {
        return x.shown(i < length ? i : x.loop());
    }

    private boolean everIn(long set, int from, int length) {
        for (int i = from; i < length; i++) {
            if (in(set, x.shown(i))) {
                return true;
            }
        }
        return false;
    }

    private boolean saysSo(int kind, long a, long b, int length) {
        switch (kind) {
            case 5:
            case 9:
                return in(a, at(length, 1));
            case 6:
            case 10:
                return until(a, b, length);
            case 7:
            case 11:
                return !everIn(~a, 0, length);
            default:
                return everIn(a, 0, length);
        }
    }

    private boolean until(long a, long b, int length) {
        for (int i = 0; i < length; i++) {
            if (in(b, x.shown(i))) {
                return true;
            }
            if (!in(a, x.shown(i))) {
                return false;
            }
        }
        return false;
    }

    private static boolean in(long set, int s) {
        return (set >>> s & 1) == 1;
    }
}
