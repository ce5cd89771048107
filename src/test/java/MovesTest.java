/** Promises 1 to 3: a new object, move, followers. */
public final class MovesTest {
    private static final int[] NO_MASKS = {-1, 64, Integer.MIN_VALUE, Integer.MAX_VALUE};

    private static final Check check = new Check("MovesTest");

    public static void main(String[] args) {
        newObject();
        objectsAreApart();
        countsMoves();
        refusesMoves();
        followersOfMoves();
        refusesFollowers();
        check.end();
    }

    private static void newObject() {
        WayWatcher x = new WayWatcher();
        for (int s = 0; s < 64; s++) {
            check.equal("new: followers(" + s + ")", x.followers(s), 1L << s);
        }
        check.equal("new: begins()", x.begins(), -1L);
        check.equal("new: loop()", x.loop(), -1);
        check.refusesIndex("new: shown(0)", () -> x.shown(0));
        check.refusesArgument("new: states(0)", () -> x.states(0));
        check.refusesArgument("new: fair(0)", () -> x.fair(0));
        check.refusesArgument("new: show(0, 0)", () -> x.show(0, 0));
        check.equal("new: first formula", x.formula(1, 0, 0), 0);
        check.equal("new: first fair", x.fair(0), 1);
        check.equal("new: first move", x.move(0, 0, 0, 0, 0), 1);
    }

    private static void objectsAreApart() {
        WayWatcher x = Fixtures.fork();
        x.formula(1, 0, 0);
        x.formula(7, 0, 0);
        x.fair(0);
        x.show(1, 0);
        newObject();
    }

    private static void countsMoves() {
        WayWatcher x = new WayWatcher();
        for (int i = 1; i <= 16; i++) {
            check.equal("move " + i, x.move(63, 63, 0, 63, 63), i);
        }
        check.refusesState("a 17th move", () -> x.move(0, 0, 1, 0, 0));
        check.refusesArgument("a 17th move, wrong", () -> x.move(64, 0, 1, 0, 0));
        check.refusesArgument("a 17th move, wrong too", () -> x.move(0, 0, 1, 1, 0));
        check.equal("no move behind a refused one", x.followers(0), 1L);
    }

    private static void refusesMoves() {
        WayWatcher x = new WayWatcher();
        for (int no : NO_MASKS) {
            check.refusesArgument("on " + no, () -> x.move(no, 0, 0, 0, 0));
            check.refusesArgument("off " + no, () -> x.move(0, no, 0, 0, 0));
            check.refusesArgument("sets " + no, () -> x.move(0, 0, no, 0, 0));
            check.refusesArgument("clears " + no, () -> x.move(0, 0, 0, no, 0));
            check.refusesArgument("any " + no, () -> x.move(0, 0, 0, 0, no));
        }
        for (int bit = 1; bit < 64; bit *= 2) {
            int both = bit;
            check.refusesArgument("sets and clears " + bit, () -> x.move(0, 0, both, both, 0));
        }
        check.refusesArgument("sets and clears, any too", () -> x.move(0, 0, 5, 6, 4));
        check.equal("refused moves are none", x.followers(0), 1L);
        check.equal("refused moves do not count", x.move(63, 63, 63, 0, 63), 1);
    }

    private static void followersOfMoves() {
        WayWatcher x = new WayWatcher();
        x.move(1, 2, 4, 8, 0);
        check.equal("all of on, none of off", x.followers(9), 1L << 5);
        check.equal("on is not so", x.followers(8), 1L << 8);
        check.equal("off is not so", x.followers(11), 1L << 11);
        check.equal("set and cleared already", x.followers(53), 1L << 53);
        x.move(9, 0, 0, 1, 48);
        check.equal("two moves", x.followers(9), 1L << 5 | 1L << 8 | 1L << 24 | 1L << 40 | 1L << 56);
        check.equal("one of two moves", x.followers(11), 1L << 10 | 1L << 26 | 1L << 42 | 1L << 58);
        check.equal("half of on", x.followers(10), 1L << 10);
        WayWatcher y = new WayWatcher();
        y.move(0, 6, 1, 0, 0);
        check.equal("some of off", y.followers(2), 1L << 2);
        check.equal("none of off", y.followers(8), 1L << 9);
        y.move(4, 0, 1, 2, 3);
        check.equal("any goes before sets and clears", y.followers(4), 0xF0L);
        y.move(63, 0, 0, 0, 63);
        check.equal("any of all", y.followers(63), -1L);
        WayWatcher z = new WayWatcher();
        z.move(0, 0, 0, 0, 0);
        check.equal("a move that changes nothing", z.followers(63), 1L << 63);
        z.move(1, 1, 0, 63, 0);
        check.equal("a move that is never possible", z.followers(63), 1L << 63);
        z.move(0, 0, 0, 63, 0);
        check.equal("with and without change", z.followers(63), 1L << 63 | 1L);
    }

    private static void refusesFollowers() {
        WayWatcher x = new WayWatcher();
        for (int no : NO_MASKS) {
            check.refusesArgument("followers(" + no + ")", () -> x.followers(no));
        }
    }
}
