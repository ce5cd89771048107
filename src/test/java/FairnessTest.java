/** Promises 5, 6 and 8: fair, unfair, begins. */
public final class FairnessTest {
    private static final Check check = new Check("FairnessTest");

    public static void main(String[] args) {
        countsFairness();
        mayBeThereAlready();
        refusesNoFormula();
        refusesKindsAbove4();
        refusesPartsOfKindsAbove4();
        looksAtPartsAllTheWayDown();
        partsThatDoNotMatterAreNone();
        refusesTheFourth();
        unfairOfNone();
        unfairTakesAllAway();
        unfairLeavesTheRest();
        beginsOfAllAndOfNone();
        beginsOfSome();
        beginsNeedsEachFormula();
        beginsFollowsMoves();
        check.end();
    }

    private static void countsFairness() {
        check.sentence("Formula f is one more of the fairness ..: how many there are.");
        WayWatcher x = new WayWatcher();
        for (int bit = 0; bit < 3; bit++) {
            x.formula(0, bit, 0);
        }
        for (int bit = 2; bit >= 0; bit--) {
            check.equal("fair(" + bit + ")", x.fair(bit), 3 - bit);
        }
        check.equal("all three of them", x.begins(), 0x8080808080808080L);
    }

    private static void mayBeThereAlready() {
        check.sentence("(it may be there already)");
        WayWatcher x = new WayWatcher();
        x.formula(0, 0, 0);
        for (int i = 1; i <= 3; i++) {
            check.equal("fair(0) once more", x.fair(0), i);
            check.equal("no other ways for that", x.begins(), Fixtures.nibbles(0xA));
        }
    }

    private static void refusesNoFormula() {
        check.sentence("IllegalArgumentException: there is no such formula");
        WayWatcher x = new WayWatcher();
        check.refusesArgument("no formula made: fair(0)", () -> x.fair(0));
        x.formula(1, 0, 0);
        for (int no : new int[] {-1, 1, 2, 31, 32, 256, Integer.MIN_VALUE, Integer.MAX_VALUE}) {
            check.refusesArgument("fair(" + no + ")", () -> x.fair(no));
        }
        check.equal("refused ones do not count", x.fair(0), 1);
    }

    private static void refusesKindsAbove4() {
        check.sentence("IllegalArgumentException: .. or its kind .. is above 4");
        for (int kind = 5; kind <= 12; kind++) {
            WayWatcher x = new WayWatcher();
            x.formula(0, 0, 0);
            int ways = x.formula(kind, 0, 0);
            refusesFair(x, kind, ways);
            check.equal("ways are as before", x.begins(), -1L);
            check.equal("refused ones do not count", x.fair(0), 1);
        }
        WayWatcher y = new WayWatcher();
        y.formula(0, 0, 0);
        for (int kind = 0; kind <= 4; kind++) {
            check.equal("kind " + kind, y.fair(y.formula(kind, 0, 0)), 1);
            y.unfair();
        }
    }

    private static void refusesPartsOfKindsAbove4() {
        check.sentence("IllegalArgumentException: .. or that of some formula that it is made of, is above "
                + "4");
        for (int kind = 5; kind <= 12; kind++) {
            WayWatcher x = new WayWatcher();
            x.formula(0, 0, 0);
            int ways = x.formula(kind, 0, 0);
            int not = x.formula(2, ways, 0);
            refusesFair(x, kind, not);
            refusesFair(x, kind, x.formula(2, not, 0));
            refusesFair(x, kind, x.formula(3, 0, ways));
            refusesFair(x, kind, x.formula(3, ways, 0));
            refusesFair(x, kind, x.formula(3, 0, not));
            refusesFair(x, kind, x.formula(3, not, 0));
            refusesFair(x, kind, x.formula(4, 0, ways));
            refusesFair(x, kind, x.formula(4, ways, 0));
            refusesFair(x, kind, x.formula(4, 0, not));
            refusesFair(x, kind, x.formula(4, not, 0));
            check.equal("refused ones do not count", x.fair(0), 1);
        }
    }

    private static void refusesFair(WayWatcher x, int kind, int f) {
        check.refusesArgument("fair(" + f + ") with kind " + kind + " in it", () -> x.fair(f));
    }

    /** The deepest formulas that there can be: 31 on top of one another. */
    private static void looksAtPartsAllTheWayDown() {
        check.sentence("some formula that it is made of: by however many others");
        WayWatcher plain = new WayWatcher();
        plain.formula(0, 0, 0);
        WayWatcher ways = new WayWatcher();
        ways.formula(1, 0, 0);
        ways.formula(7, 0, 0);
        for (int made = 1; made < 32; made++) {
            int kind = 2 + made % 3;
            int top = plain.formula(kind, made - 1, 0);
            check.equal("plain all the way down from " + top, plain.fair(top), 1);
            plain.unfair();
        }
        for (int made = 2; made < 32; made++) {
            int top = ways.formula(2 + made % 3, made - 1, 0);
            check.refusesArgument("ways far below " + top, () -> ways.fair(top));
        }
        check.equal("what is far below, but is no part", ways.fair(0), 1);
    }

    private static void partsThatDoNotMatterAreNone() {
        check.sentence("some formula that it is made of: a number that does not matter is none");
        WayWatcher x = new WayWatcher();
        x.formula(1, 0, 0);
        int ways = x.formula(12, 0, 0);
        check.equal("a variable", x.fair(x.formula(0, ways, ways)), 1);
        check.equal("all", x.fair(x.formula(1, ways, ways)), 2);
        check.equal("not", x.fair(x.formula(2, 0, ways)), 3);
        x.unfair();
        int both = x.formula(3, 0, 2);
        check.equal("both, with number 5", x.fair(both), 1);
        check.equal("either", x.fair(x.formula(4, both, 3)), 2);
        check.equal("begins()", x.begins(), Fixtures.nibbles(0xC));
    }

    private static void refusesTheFourth() {
        check.sentence("IllegalStateException: there are 3.");
        WayWatcher x = Fixtures.forkWithParts();
        int ways = x.formula(5, 0, 0);
        for (int i = 1; i <= 3; i++) {
            x.fair(Fixtures.Q);
        }
        check.refusesState("a fourth that is there already", () -> x.fair(Fixtures.Q));
        check.refusesState("a fourth that is not", () -> x.fair(Fixtures.P));
        check.refusesArgument("a fourth of no formula", () -> x.fair(99));
        check.refusesArgument("a fourth of ways", () -> x.fair(ways));
        check.equal("the refused ones are none", x.begins(), -1L);
        x.unfair();
        for (int i = 1; i <= 3; i++) {
            check.equal("three more behind unfair()", x.fair(Fixtures.Q), i);
        }
        check.refusesState("a fourth again", () -> x.fair(Fixtures.Q));
    }

    private static void unfairOfNone() {
        check.sentence("There is no fairness any more. (There was none.)");
        WayWatcher x = new WayWatcher();
        x.unfair();
        check.equal("on a new object", x.begins(), -1L);
        x.formula(0, 0, 0);
        x.fair(0);
        x.unfair();
        x.unfair();
        check.equal("twice", x.begins(), -1L);
        check.equal("and then one", x.fair(0), 1);
    }

    private static void unfairTakesAllAway() {
        check.sentence("There is no fairness any more.");
        for (int count = 1; count <= 3; count++) {
            WayWatcher x = Fixtures.forkWithParts();
            for (int i = 0; i < count; i++) {
                x.fair(Fixtures.P);
            }
            check.equal("no fair way", x.begins(), 0L);
            x.unfair();
            check.equal("all ways again, of " + count, x.begins(), -1L);
            check.equal("another one", x.fair(Fixtures.NOT_Q), 1);
            check.equal("that one alone", x.begins(), Fixtures.nibbles(0x9));
            check.equal("counted on", x.fair(Fixtures.P), 2);
            check.equal("no fair way again", x.begins(), 0L);
        }
    }

    private static void unfairLeavesTheRest() {
        check.sentence("unfair: what is no fairness stays");
        WayWatcher x = Fixtures.forkWithParts();
        x.fair(Fixtures.Q);
        int all = x.formula(7, Fixtures.TRUE, 0);
        check.equal("a way", x.show(all, 0), 4);
        x.unfair();
        check.text("the shown way stays", Fixtures.told(x, 4), "0 0 1 2 loop 3");
        check.equal("moves stay", x.followers(1), 4L);
        check.equal("formulas stay", x.states(Fixtures.P), Fixtures.nibbles(0xA));
        check.equal("the next formula", x.formula(1, 0, 0), all + 1);
        check.equal("the next move", x.move(0, 0, 0, 0, 0), 4);
    }

    private static void beginsOfAllAndOfNone() {
        check.sentence("The states in which a fair way begins: all of them, or none");
        WayWatcher x = Fixtures.forkWithParts();
        check.equal("no fairness", x.begins(), -1L);
        x.fair(Fixtures.TRUE);
        check.equal("fairness that is always so", x.begins(), -1L);
        x.fair(Fixtures.Q);
        check.equal("q", x.begins(), -1L);
        x.fair(Fixtures.NOT_Q);
        check.equal("q and not q", x.begins(), 0L);
        x.unfair();
        x.fair(x.formula(2, Fixtures.TRUE, 0));
        check.equal("fairness that is never so", x.begins(), 0L);
    }

    private static void beginsOfSome() {
        check.sentence("The states in which a fair way begins: some of them");
        WayWatcher x = Fixtures.forkWithParts();
        x.fair(Fixtures.NOT_Q);
        check.equal("not q", x.begins(), Fixtures.nibbles(0x9));
        WayWatcher y = new WayWatcher();
        Fixtures.literals(y);
        y.fair(Fixtures.onlyIn(y, 63));
        check.equal("63 alone", y.begins(), Long.MIN_VALUE);
        y.unfair();
        y.fair(Fixtures.onlyIn(y, 0));
        check.equal("0 alone", y.begins(), 1L);
    }

    private static void beginsNeedsEachFormula() {
        check.sentence("The states in which a fair way begins: fair to each formula");
        WayWatcher x = new WayWatcher();
        x.move(0, 0, 0, 0, 1);
        x.move(0, 0, 0, 0, 2);
        for (int bit = 0; bit < 3; bit++) {
            x.formula(0, bit, 0);
        }
        x.fair(0);
        x.fair(1);
        check.equal("bits 0 and 1 come again and again", x.begins(), -1L);
        x.fair(2);
        check.equal("bit 2 must be there already", x.begins(), 0xF0F0F0F0F0F0F0F0L);
    }

    private static void beginsFollowsMoves() {
        check.sentence("The states in which a fair way begins: by the moves of now");
        WayWatcher x = new WayWatcher();
        x.formula(0, 5, 0);
        x.fair(0);
        check.equal("no moves", x.begins(), 0xFFFFFFFF00000000L);
        x.move(1, 0, 32, 0, 0);
        check.equal("a move to fair states", x.begins(), 0xFFFFFFFFAAAAAAAAL);
        x.move(32, 0, 0, 33, 0);
        check.equal("a move away is no must for all", x.begins(), 0xAAAAAAAAAAAAAAAAL);
    }
}
