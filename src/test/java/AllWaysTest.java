import java.util.Random;

/**
 * Kinds 5 to 12 and begins() by the very words of "Terms": all ways of small machines are gone
 * through, up to a length, and what a formula asks of a way is looked for on each fair one.
 *
 * <p>The moves leave bits 2 to 5 alone, so that states 0 to 3 stand for all. If some way of four
 * states is as asked, then one is that comes to where it is so by at most 3 steps and then goes round
 * a loop of at most 6: a round through all four never needs more.
 */
public final class AllWaysTest {
    private static final int MACHINES = 4000;
    private static final int STATES = 4;
    private static final int LONGEST = 9;
    private static final int NEXT = 0;
    private static final int UNTIL = 1;
    private static final int ALWAYS = 2;
    private static final int EVER = 3;
    private static final String[] WORDS = {"NEXT", "UNTIL", "ALWAYS", "EVER"};

    private final Check check;
    private final Random random;
    private final String name;
    private final WayWatcher x = new WayWatcher();
    private final int[] followers = new int[STATES];
    private final int[] goals;
    private final int f;
    private final int g;
    private final int[] made = new int[8];
    private final int[] way = new int[LONGEST];
    /** By what is asked: the states in which it is so on some fair way, and not so on some. */
    private final int[] someSo = new int[4];
    private final int[] someNot = new int[4];
    private int begins;

    private AllWaysTest(Check check, int machine) {
        this.check = check;
        random = new Random(machine);
        name = "machine " + machine;
        goals = new int[random.nextInt(4)];
        f = random.nextInt(1 << STATES);
        g = random.nextInt(1 << STATES);
    }

    public static void main(String[] args) {
        Check check = new Check("AllWaysTest");
        for (int machine = 0; machine < MACHINES; machine++) {
            AllWaysTest test = new AllWaysTest(check, machine);
            test.makeMoves();
            test.makeFormulas();
            for (int s = 0; s < STATES; s++) {
                test.goOn(s, 0);
            }
            test.compare();
        }
        check.end();
    }

    private void makeMoves() {
        for (int i = random.nextInt(6); i > 0; i--) {
            int sets = random.nextInt(4);
            int any = random.nextInt(4) & random.nextInt(4);
            int on = random.nextInt(4);
            x.move(on, random.nextInt(4) & ~on, sets, random.nextInt(4) & ~sets, any);
        }
        for (int s = 0; s < STATES; s++) {
            followers[s] = (int) x.followers(s);
        }
    }

    private void makeFormulas() {
        Fixtures.fourStates(x);
        int first = Fixtures.anyOfFour(x, f);
        int second = Fixtures.anyOfFour(x, g);
        for (int i = 0; i < goals.length; i++) {
            // A goal of few states is the one that matters.
            goals[i] = random.nextInt(1 << STATES) & random.nextInt(1 << STATES);
            x.fair(Fixtures.anyOfFour(x, goals[i]));
        }
        for (int i = 0; i < made.length; i++) {
            made[i] = x.formula(5 + i, first, second);
        }
    }

    /** Goes on with s as the state at a place of the way, and from there as far as may be. */
    private void goOn(int s, int place) {
        way[place] = s;
        int met = 0;
        for (int start = place; start >= 0; start--) {
            met |= 1 << way[start];
            if (in(followers[s], way[start]) && isFair(met)) {
                lookAt(place + 1, start);
            }
        }
        for (int t = 0; t < STATES && place + 1 < LONGEST; t++) {
            if (in(followers[s], t)) {
                goOn(t, place + 1);
            }
        }
    }

    private boolean isFair(int met) {
        for (int goal : goals) {
            if ((met & goal) == 0) {
                return false;
            }
        }
        return true;
    }

    private void lookAt(int length, int loop) {
        int first = 1 << way[0];
        begins |= first;
        for (int asked = NEXT; asked <= EVER; asked++) {
            if (isSo(asked, length, loop)) {
                someSo[asked] |= first;
            } else {
                someNot[asked] |= first;
            }
        }
    }

    private boolean isSo(int asked, int length, int loop) {
        switch (asked) {
            case NEXT:
                return in(f, length > 1 ? way[1] : way[loop]);
            case UNTIL:
                return until(length);
            case ALWAYS:
                return places(f, length) == length;
            default:
                return places(f, length) > 0;
        }
    }

    private boolean until(int length) {
        int place = 0;
        while (place < length && !in(g, way[place])) {
            place++;
        }
        return place < length && places(f, place) == place;
    }

    /** How many of the first states of the way are in a set. */
    private int places(int set, int length) {
        int count = 0;
        for (int i = 0; i < length; i++) {
            count += in(set, way[i]) ? 1 : 0;
        }
        return count;
    }

    private void compare() {
        check.equal(name + ": begins()", x.begins(), Fixtures.nibbles(begins));
        for (int asked = NEXT; asked <= EVER; asked++) {
            check.equal(name + ": SOME " + WORDS[asked], x.states(made[asked]),
                    Fixtures.nibbles(someSo[asked]));
            check.equal(name + ": EACH " + WORDS[asked], x.states(made[4 + asked]),
                    Fixtures.nibbles(15 & ~someNot[asked]));
        }
    }

    private static boolean in(int set, int s) {
        return (set >> s & 1) == 1;
    }
}
