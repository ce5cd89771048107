/** Promises 5, 6 and 8: fair, unfair, begins. */
public final class FairnessTest {
    private static final Check check = new Check("FairnessTest");

    public static void main(String[] args) {
        countsFairness();
        refusesNoFormula();
        refusesFormulasOfWays();
        takesPlainFormulas();
        unfairTakesAllAway();
        beginsOfTheFork();
        beginsNeedsEachFormula();
        beginsFollowsMoves();
        check.end();
    }

    private static void countsFairness() {
        WayWatcher x = new WayWatcher();
        x.formula(1, 0, 0);
        x.formula(5, 0, 0);
        for (int i = 1; i <= 3; i++) {
            check.equal("fair(0) once more", x.fair(0), i);
        }
        check.refusesState("a fourth", () -> x.fair(0));
        check.refusesArgument("a fourth of no formula", () -> x.fair(2));
        check.refusesArgument("a fourth of ways", () -> x.fair(1));
        check.equal("begins()", x.begins(), -1L);
    }

    private static void refusesNoFormula() {
        WayWatcher x = new WayWatcher();
        x.formula(1, 0, 0);
        for (int no : new int[] {-1, 1, 31, 32, Integer.MIN_VALUE, Integer.MAX_VALUE}) {
            check.refusesArgument("fair(" + no + ")", () -> x.fair(no));
        }
        check.equal("refused ones do not count", x.fair(0), 1);
    }

    private static void refusesFormulasOfWays() {
        for (int kind = 5; kind <= 12; kind++) {
            WayWatcher x = new WayWatcher();
            x.formula(0, 0, 0);
            int ways = x.formula(kind, 0, 0);
            refusesFair(x, kind, ways);
            int not = x.formula(2, ways, 0);
            refusesFair(x, kind, not);
            refusesFair(x, kind, x.formula(2, not, 0));
            refusesFair(x, kind, x.formula(3, 0, ways));
            refusesFair(x, kind, x.formula(3, not, 0));
            refusesFair(x, kind, x.formula(4, 0, not));
            refusesFair(x, kind, x.formula(4, ways, 0));
            check.equal("refused ones do not count", x.fair(0), 1);
        }
    }

    private static void refusesFair(WayWatcher x, int kind, int f) {
        check.refusesArgument("fair(" + f + ") with kind " + kind + " in it", () -> x.fair(f));
    }

    /** What does not matter to a formula is no part of it, even if it is the number of one. */
    private static void takesPlainFormulas() {
        WayWatcher x = new WayWatcher();
        x.formula(1, 0, 0);
        int ways = x.formula(12, 0, 0);
        check.equal("a variable", x.fair(x.formula(0, ways, ways)), 1);
        check.equal("all", x.fair(x.formula(1, ways, ways)), 2);
        check.equal("not", x.fair(x.formula(2, 0, ways)), 3);
        x.unfair();
        int both = x.formula(3, 0, 2);
        check.equal("both, with number 5", x.fair(both), 1);
        check.equal("either", x.fair(x.formula(4, both, 3)), 2);
        check.equal("begins()", x.begins(), Fixtures.nibbles(0xC));
    }

    private static void unfairTakesAllAway() {
        WayWatcher x = Fixtures.fork();
        x.unfair();
        check.equal("unfair on none", x.begins(), -1L);
        x.formula(0, 0, 0);
        x.fair(0);
        x.fair(0);
        check.equal("no fair way", x.begins(), 0L);
        x.unfair();
        check.equal("all ways again", x.begins(), -1L);
        check.equal("moves stay", x.followers(1), 4L);
        check.equal("formulas stay", x.states(0), Fixtures.nibbles(0xA));
        check.equal("counted anew", x.fair(0), 1);
        check.equal("counted on", x.fair(0), 2);
        check.equal("no fair way again", x.begins(), 0L);
    }

    private static void beginsOfTheFork() {
        WayWatcher x = Fixtures.fork();
        x.formula(0, 0, 0);
        x.formula(0, 1, 0);
        x.formula(2, 1, 0);
        check.equal("none", x.begins(), -1L);
        x.fair(1);
        check.equal("q", x.begins(), -1L);
        x.fair(2);
        check.equal("q and not q", x.begins(), 0L);
        x.unfair();
        x.fair(2);
        check.equal("not q", x.begins(), Fixtures.nibbles(0x9));
    }

    private static void beginsNeedsEachFormula() {
        WayWatcher x = new WayWatcher();
        x.move(0, 0, 0, 0, 1);
        x.move(0, 0, 0, 0, 2);
        for (int bit = 0; bit < 3; bit++) {
            x.formula(0, bit, 0);
        }
        x.fair(0);
        x.fair(1);
        check.equal("bits 0 and 1 come again and again", x.begins(), -1L);
        x.fair(2);
        check.equal("bit 2 must be there already", x.begins(), 0xF0F0F0F0F0F0F0F0L);
    }

    private static void beginsFollowsMoves() {
        WayWatcher x = new WayWatcher();
        x.formula(0, 5, 0);
        x.fair(0);
        check.equal("no moves", x.begins(), 0xFFFFFFFF00000000L);
        x.move(1, 0, 32, 0, 0);
        check.equal("a move to fair states", x.begins(), 0xFFFFFFFFAAAAAAAAL);
        x.move(32, 0, 0, 33, 0);
        check.equal("a move away is no must for all", x.begins(), 0xAAAAAAAAAAAAAAAAL);
    }
}
