/** Promises 1 to 3: a new object, move, followers. */
public final class MovesTest {
    /** Numbers just outside 0 .. 63, and some that are 0 .. 63 once they have wrapped around. */
    private static final int[] OUTSIDE = {
        -1, 64, -64, 65, 127, 128, 1 << 16, Integer.MIN_VALUE, Integer.MIN_VALUE + 1, Integer.MAX_VALUE
    };

    private static final Check check = new Check("MovesTest");

    public static void main(String[] args) {
        newObjectHasNothing();
        objectsAreApart();
        countsMoves();
        masksAreTakenUpTo63();
        refusesMasks();
        refusesSetsAndClearsInCommon();
        refusesThe17th();
        refusedMovesChangeNothing();
        answersFollowersOfEachState();
        refusesNoState();
        check.end();
    }

    private static void newObjectHasNothing() {
        check.sentence("No moves, no formulas, no fairness, no way is shown.");
        WayWatcher x = new WayWatcher();
        for (int s = 0; s < 64; s++) {
            check.equal("new: followers(" + s + ")", x.followers(s), 1L << s);
        }
        check.equal("new: begins()", x.begins(), -1L);
        check.equal("new: loop()", x.loop(), -1);
        check.refusesIndex("new: shown(0)", () -> x.shown(0));
        check.refusesIndex("new: shown(-1)", () -> x.shown(-1));
        check.refusesArgument("new: states(0)", () -> x.states(0));
        check.refusesArgument("new: fair(0)", () -> x.fair(0));
        check.refusesArgument("new: show(0, 0)", () -> x.show(0, 0));
        check.refusesArgument("new: a formula of another", () -> x.formula(2, 0, 0));
        check.equal("new: first formula", x.formula(1, 0, 0), 0);
        check.equal("new: first fair", x.fair(0), 1);
        check.equal("new: first move", x.move(0, 0, 0, 0, 0), 1);
    }

    private static void objectsAreApart() {
        WayWatcher used = Fixtures.fork();
        used.formula(1, 0, 0);
        used.formula(7, 0, 0);
        used.fair(0);
        used.show(1, 0);
        newObjectHasNothing();
    }

    private static void countsMoves() {
        check.sentence("One more move: how many there are.");
        WayWatcher x = new WayWatcher();
        for (int i = 1; i <= 16; i++) {
            // The same move over and over, possible nowhere: each counts all the same.
            check.equal("move " + i, x.move(63, 63, 0, 63, 63), i);
        }
        WayWatcher y = new WayWatcher();
        check.equal("a first move", y.move(0, 0, 1, 0, 0), 1);
        check.equal("its like once more", y.move(0, 0, 1, 0, 0), 2);
    }

    private static void masksAreTakenUpTo63() {
        check.sentence("IllegalArgumentException: some mask is not 0 .. 63: 0 and 63 are taken");
        WayWatcher x = new WayWatcher();
        check.equal("all 0", x.move(0, 0, 0, 0, 0), 1);
        check.equal("on 63", x.move(63, 0, 0, 0, 0), 2);
        check.equal("off 63", x.move(0, 63, 0, 0, 0), 3);
        check.equal("sets 63", x.move(0, 0, 63, 0, 0), 4);
        check.equal("clears 63", x.move(0, 0, 0, 63, 0), 5);
        check.equal("any 63", x.move(0, 0, 0, 0, 63), 6);
        check.equal("on, off, sets, any 63", x.move(63, 63, 63, 0, 63), 7);
        check.equal("on, off, clears, any 63", x.move(63, 63, 0, 63, 63), 8);
    }

    private static void refusesMasks() {
        check.sentence("IllegalArgumentException: some mask is not 0 .. 63");
        WayWatcher x = new WayWatcher();
        for (int no : OUTSIDE) {
            check.refusesArgument("on " + no, () -> x.move(no, 0, 0, 0, 0));
            check.refusesArgument("off " + no, () -> x.move(0, no, 0, 0, 0));
            check.refusesArgument("sets " + no, () -> x.move(0, 0, no, 0, 0));
            check.refusesArgument("clears " + no, () -> x.move(0, 0, 0, no, 0));
            check.refusesArgument("any " + no, () -> x.move(0, 0, 0, 0, no));
        }
        check.equal("refused moves do not count", x.move(63, 63, 63, 0, 63), 1);
    }

    private static void refusesSetsAndClearsInCommon() {
        check.sentence("IllegalArgumentException: .. or SETS and CLEARS have a bit in common");
        WayWatcher x = new WayWatcher();
        for (int bit = 1; bit < 64; bit *= 2) {
            int both = bit;
            check.refusesArgument("sets and clears " + bit, () -> x.move(0, 0, both, both, 0));
            check.refusesArgument("sets 63, clears " + bit, () -> x.move(0, 0, 63, both, 0));
            check.refusesArgument("clears 63, sets " + bit, () -> x.move(0, 0, both, 63, 0));
            check.refusesArgument("any too " + bit, () -> x.move(0, 0, both, both, both));
            check.refusesArgument("nowhere possible", () -> x.move(1, 1, both, both, 0));
        }
        check.refusesArgument("all", () -> x.move(0, 0, 63, 63, 63));
        check.equal("refused moves do not count", x.move(0, 0, 42, 21, 0), 1);
        check.equal("none in common, all together", x.followers(0), 1L << 42);
        check.equal("in common with the other masks", x.move(42, 21, 42, 21, 63), 2);
    }

    private static void refusesThe17th() {
        check.sentence("IllegalStateException: there are 16.");
        WayWatcher x = new WayWatcher();
        for (int i = 1; i < 16; i++) {
            x.move(63, 63, 0, 0, 0);
        }
        check.equal("the 16th", x.move(0, 0, 0, 63, 0), 16);
        check.equal("the 16th counts", x.followers(63), 1L);
        for (int i = 0; i < 3; i++) {
            check.refusesState("a 17th", () -> x.move(0, 0, 63, 0, 0));
        }
        check.refusesState("a 17th, possible nowhere", () -> x.move(1, 1, 0, 0, 0));
        check.refusesArgument("a 17th with a wrong mask", () -> x.move(64, 0, 1, 0, 0));
        check.refusesArgument("a 17th with a bit in common", () -> x.move(0, 0, 1, 1, 0));
        check.equal("no move behind a refused one", x.followers(63), 1L);
    }

    private static void refusedMovesChangeNothing() {
        check.sentence("a refused move is none");
        WayWatcher x = new WayWatcher();
        x.formula(0, 0, 0);
        int ever = x.formula(8, 0, 0);
        x.show(ever, 1);
        check.refusesArgument("a wrong mask", () -> x.move(0, 0, 1, 0, 64));
        check.refusesArgument("a bit in common", () -> x.move(0, 0, 1, 1, 0));
        check.equal("followers", x.followers(0), 1L);
        check.equal("states", x.states(ever), Fixtures.nibbles(0xA));
        check.equal("the shown way", x.shown(0), 1);
    }

    private static void answersFollowersOfEachState() {
        check.sentence("The followers of a state.");
        WayWatcher x = Fixtures.counter();
        for (int s = 0; s < 64; s++) {
            check.equal("followers(" + s + ")", x.followers(s), 1L << (s + 1 & 63));
        }
        x.move(0, 0, 0, 0, 32);
        for (int s = 0; s < 64; s++) {
            long due = 1L << (s + 1 & 63) | 1L << s | 1L << (s ^ 32);
            check.equal("with a move more: followers(" + s + ")", x.followers(s), due);
        }
    }

    private static void refusesNoState() {
        check.sentence("followers: IllegalArgumentException: there is no such state.");
        WayWatcher x = new WayWatcher();
        for (int no : OUTSIDE) {
            check.refusesArgument("followers(" + no + ")", () -> x.followers(no));
        }
        x.move(0, 0, 0, 0, 63);
        for (int no : OUTSIDE) {
            check.refusesArgument("with a move: followers(" + no + ")", () -> x.followers(no));
        }
        check.equal("the least state", x.followers(0), -1L);
        check.equal("the greatest state", x.followers(63), -1L);
    }
}
