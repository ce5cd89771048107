/** "Terms" on going, rounds, loops and shown ways: each sentence that names an edge. */
public final class TermsOfShownWaysTest {
    private static final Check check = new Check("TermsOfShownWaysTest");
    private static final int P = Fixtures.P;
    private static final int Q = Fixtures.Q;
    private static final int NOT_P = Fixtures.NOT_P;
    private static final int NOT_Q = Fixtures.NOT_Q;
    private static final int TRUE = Fixtures.TRUE;

    public static void main(String[] args) {
        goesNoStepWithinTheSet();
        goesAsFewStepsAsCanBe();
        goesToTheLeastOfTheNearest();
        goesByFollowersWithin();
        roundBeginsWithTheLeastFollower();
        roundGoesToEachFormulaInOrder();
        roundMeetsAFormulaAlready();
        roundsGoOnTillOneBeginsAgain();
        waysWhereItHolds();
        wayOfSomeAlways();
        wayOfSomeNext();
        wayOfSomeUntil();
        wayOfSomeEver();
        waysWhereItDoesNotHold();
        wayOfEachUntil();
        goesToFairStatesAlone();
        loopsWithinFairStates();
        lastStateIsLeftOut();
        check.end();
    }

    private static void way(WayWatcher x, String what, int f, int s, String due) {
        check.text(what + " from " + s, Fixtures.told(x, x.show(f, s)), due);
    }

    /** Each state goes to each; formulas 0 .. 5 are the variables, 6 is ALL. */
    private static WayWatcher everywhere() {
        WayWatcher x = new WayWatcher();
        x.move(0, 0, 0, 0, 63);
        for (int bit = 0; bit < 6; bit++) {
            x.formula(0, bit, 0);
        }
        x.formula(1, 0, 0);
        return x;
    }

    private static void goesNoStepWithinTheSet() {
        check.sentence("TO GO FROM a state TO a set ..: (none if it is in the set)");
        WayWatcher x = everywhere();
        int ever = x.formula(8, 5, 0);
        way(x, "in the set, though a lesser state is too", ever, 63, "63 0 loop 1");
        way(x, "in the set, the least of it", ever, 32, "32 0 loop 1");
        way(x, "not in the set", ever, 31, "31 32 0 loop 2");
        WayWatcher y = new WayWatcher();
        y.formula(0, 0, 0);
        way(y, "in the set, and it stays there", y.formula(6, 0, 0), 63, "63 loop 0");
    }

    private static void goesAsFewStepsAsCanBe() {
        check.sentence("TO GO ..: by as few steps as can be");
        WayWatcher x = Fixtures.line();
        Fixtures.literals(x);
        int last = Fixtures.onlyIn(x, 63);
        int ever = x.formula(8, last, 0);
        check.equal("63 steps, the most", x.show(ever, 0), 64);
        for (int i = 0; i < 64; i++) {
            check.equal("63 steps: shown(" + i + ")", x.shown(i), i);
        }
        check.equal("63 steps: its loop", x.loop(), 63);
        check.equal("1 step", x.show(ever, 62), 2);
        x.move(0, 63, 32, 0, 0);
        check.equal("from 0 by 32 now", x.show(ever, 0), 33);
        check.equal("not by 1, the lesser follower", x.shown(1), 32);
        x.move(0, 32, 32, 0, 0);
        check.equal("each state of the lower half may go up now", x.show(ever, 0), 33);
        check.equal("as near by 1 as by 32", x.shown(1), 1);
        check.equal("as near by 31 as by 62", x.shown(31), 31);
        check.equal("31 is nearer by 63 than by 32", x.shown(32), 63);
    }

    /** 0 goes to 1, 2 and 3; only 2 and 3 go on to 4, 1 goes to 2, and 4 stays. */
    private static void goesToTheLeastOfTheNearest() {
        check.sentence("TO GO ..: each time to the least follower from which fewer steps are left");
        WayWatcher x = new WayWatcher();
        x.move(0, 7, 1, 0, 0);
        x.move(0, 7, 2, 0, 0);
        x.move(0, 7, 3, 0, 0);
        x.move(1, 6, 2, 1, 0);
        x.move(2, 4, 4, 3, 0);
        x.formula(0, 2, 0);
        way(x, "2 and 3 are as near, 1 is lesser", x.formula(8, 0, 0), 0, "0 2 4 loop 2");
        WayWatcher y = everywhere();
        int both = y.formula(3, 4, 5);
        way(y, "of 48 .. 63, as near", y.formula(8, both, 0), 0, "0 48 0 loop 2");
        WayWatcher z = new WayWatcher();
        z.move(0, 48, 0, 0, 48);
        z.formula(0, 4, 0);
        z.formula(0, 5, 0);
        int upper = z.formula(8, 1, 0);
        way(z, "of 47 and 63, not 15 itself", upper, 15, "15 47 loop 1");
    }

    /**
     * The near way from 8 to 4 leads through 2, without bit 3; the far one through 9, 10 and 11. And
     * 24 goes to 8.
     */
    private static void goesByFollowersWithin() {
        check.sentence("TO GO .. within a set H ..: by followers in H");
        WayWatcher x = new WayWatcher();
        x.move(16, 0, 0, 16, 0);
        x.move(8, 23, 2, 8, 0);
        x.move(8, 23, 1, 0, 0);
        x.move(2, 13, 4, 2, 0);
        x.move(9, 6, 2, 1, 0);
        x.move(10, 5, 1, 0, 0);
        x.move(11, 4, 4, 11, 0);
        x.formula(0, 3, 0);
        x.formula(0, 2, 0);
        way(x, "bit 3 until bit 2", x.formula(6, 0, 1), 8, "8 9 10 11 4 loop 4");
        way(x, "ever bit 2", x.formula(8, 1, 0), 8, "8 2 4 loop 2");
        x.fair(1);
        int all = x.formula(7, x.formula(1, 0, 0), 0);
        way(x, "a round goes the near way", all, 24, "24 8 2 4 loop 3");
        int either = x.formula(7, x.formula(4, 0, 1), 0);
        way(x, "a round's first step keeps to the formula", either, 8, "8 9 10 11 4 loop 4");
        way(x, "a round keeps to the formula", either, 24, "24 8 9 10 11 4 loop 5");
    }

    private static void roundBeginsWithTheLeastFollower() {
        check.sentence("A ROUND within H from a state: to its least follower in H");
        WayWatcher x = everywhere();
        way(x, "the least of all", x.formula(7, 6, 0), 63, "63 0 loop 1");
        way(x, "itself", x.formula(7, 6, 0), 0, "0 loop 0");
        int upper = x.formula(7, 5, 0);
        way(x, "the least in H, not the least of all", upper, 63, "63 32 loop 1");
        way(x, "the least in H, itself", upper, 32, "32 loop 0");
        x.fair(0);
        way(x, "a step, though the formula holds already", x.formula(7, 6, 0), 1, "1 0 loop 0");
        WayWatcher y = new WayWatcher();
        y.formula(1, 0, 0);
        way(y, "itself, where there is no move", y.formula(7, 0, 0), 63, "63 loop 0");
    }

    private static void roundGoesToEachFormulaInOrder() {
        check.sentence("and then to the set of each formula of the fairness in H, in their order, within "
                + "H");
        WayWatcher x = everywhere();
        int all = x.formula(7, 6, 0);
        way(x, "no fairness", all, 9, "9 0 loop 1");
        x.fair(2);
        way(x, "bit 2", all, 9, "9 0 4 0 loop 2");
        x.fair(0);
        way(x, "bits 2 and 0", all, 9, "9 0 4 1 0 4 loop 3");
        x.fair(1);
        way(x, "bits 2, 0 and 1", all, 9, "9 0 4 1 2 0 4 1 loop 4");
        int upper = x.formula(7, 5, 0);
        way(x, "within the upper half", upper, 41, "41 32 36 33 34 32 36 33 loop 4");
    }

    private static void roundMeetsAFormulaAlready() {
        check.sentence("to the set of each formula of the fairness: no step where it holds already");
        WayWatcher x = everywhere();
        int all = x.formula(7, 6, 0);
        x.fair(6);
        way(x, "one that always holds", all, 9, "9 0 loop 1");
        x.fair(0);
        way(x, "behind it bit 0", all, 9, "9 0 1 0 loop 2");
        x.fair(0);
        way(x, "bit 0 twice", all, 9, "9 0 1 0 loop 2");
        x.unfair();
        x.fair(x.formula(3, 0, 1));
        x.fair(0);
        way(x, "bits 0 and 1 at once, then bit 0", all, 9, "9 0 3 0 loop 2");
        x.unfair();
        x.fair(0);
        x.fair(3);
        x.fair(0);
        way(x, "bit 0 again behind bit 3", all, 2, "2 0 1 8 1 0 1 8 loop 4");
    }

    private static void roundsGoOnTillOneBeginsAgain() {
        check.sentence("A LOOP within H: rounds .., until one begins in a state in which an earlier one "
                + "began");
        WayWatcher x = Fixtures.counter();
        Fixtures.literals(x);
        int all = x.formula(7, x.formula(1, 0, 0), 0);
        check.equal("64 rounds of a step each", x.show(all, 5), 64);
        check.equal("64 rounds: the first begins again", x.loop(), 0);
        x.fair(Fixtures.onlyIn(x, 5));
        check.equal("from 5: a round through all", x.show(all, 5), 64);
        check.equal("from 5: the first begins again", x.loop(), 0);
        check.equal("from 6: a round of 63 steps, then one through all", x.show(all, 6), 127);
        check.equal("from 6: 6 is gone through again, the loop begins with 5", x.loop(), 63);
        check.equal("from 4: a round of one step, then one through all", x.show(all, 4), 65);
        check.equal("from 4: the second begins again", x.loop(), 1);
    }

    private static void waysWhereItHolds() {
        check.sentence("THE SHOWN WAY .., if there is one: of kind 5, 6, 7, 8, where it holds");
        WayWatcher x = Fixtures.forkWithParts();
        for (int kind = 5; kind <= 8; kind++) {
            int made = x.formula(kind, P, Q);
            hasAWay(x, "kind " + kind, made, x.states(made));
        }
        for (int kind = 0; kind <= 4; kind++) {
            hasAWay(x, "kind " + kind, x.formula(kind, P, Q), 0L);
        }
    }

    private static void hasAWay(WayWatcher x, String what, int f, long due) {
        for (int s = 0; s < 64; s += 1 + s / 4) {
            int state = s;
            String outcome = Check.outcome(() -> x.show(f, state));
            boolean has = (due >>> s & 1) == 1;
            check.text(what + " in " + s, outcome, has ? "nothing" : "IllegalStateException");
        }
    }

    private static void wayOfSomeAlways() {
        check.sentence("7: a loop within the states in which the formula holds.");
        WayWatcher x = Fixtures.forkWithParts();
        way(x, "some always not q", x.formula(7, NOT_Q, 0), 0, "0 loop 0");
        way(x, "some always q", x.formula(7, Q, 0), 62, "62 loop 0");
        way(x, "some always all", x.formula(7, TRUE, 0), 3, "3 0 loop 1");
        WayWatcher y = everywhere();
        // From 1 the least follower in which bit 0 holds is 1; but fairness must be met within those.
        y.fair(1);
        way(y, "some always bit 0, fair to bit 1", y.formula(7, 0, 0), 1, "1 1 3 1 loop 2");
    }

    private static void wayOfSomeNext() {
        check.sentence("5: to the least follower in S in which f holds, and a loop within S.");
        WayWatcher x = everywhere();
        way(x, "the least in which it holds", x.formula(5, 5, 0), 0, "0 32 0 loop 2");
        way(x, "itself, then the loop", x.formula(5, 5, 0), 32, "32 32 0 loop 2");
        way(x, "the least of all", x.formula(5, 6, 0), 63, "63 0 loop 1");
        way(x, "itself, which is the loop too", x.formula(5, 6, 0), 0, "0 0 loop 1");
        WayWatcher y = new WayWatcher();
        y.formula(1, 0, 0);
        way(y, "where there is no move", y.formula(5, 0, 0), 63, "63 63 loop 1");
        WayWatcher z = Fixtures.forkWithParts();
        way(z, "some next p", z.formula(5, P, 0), 0, "0 1 2 loop 2");
        z.fair(NOT_Q);
        way(z, "fair not q: some next all", z.formula(5, TRUE, 0), 3, "3 0 loop 1");
    }

    private static void wayOfSomeUntil() {
        check.sentence("6: to the states of S in which g holds, within those in which the formula holds, "
                + "and a loop within S.");
        WayWatcher x = Fixtures.forkWithParts();
        int until = x.formula(6, P, Q);
        way(x, "p some until q", until, 1, "1 2 loop 1");
        way(x, "p some until q, at once", until, 2, "2 loop 0");
        way(x, "p some until q, at once, the loop where it holds no more", until, 3, "3 0 loop 1");
        way(x, "not q until q", x.formula(6, NOT_Q, Q), 0, "0 1 2 loop 2");
        x.fair(Q);
        way(x, "fair q: all until not q", x.formula(6, TRUE, NOT_Q), 3, "3 0 0 1 2 loop 4");
    }

    private static void wayOfSomeEver() {
        check.sentence("8: as 6, with all states for f, and f for g.");
        WayWatcher x = Fixtures.forkWithParts();
        int ever = x.formula(8, P, 0);
        way(x, "some ever p", ever, 0, "0 1 2 loop 2");
        way(x, "some ever p, at once", ever, 3, "3 0 loop 1");
        way(x, "some ever p, at once too", ever, 1, "1 2 loop 1");
        way(x, "some ever all", x.formula(8, TRUE, 0), 2, "2 loop 0");
    }

    private static void waysWhereItDoesNotHold() {
        check.sentence("Of kind 9 to 12, where it does not hold: that of 5 for NOT f; of 8 for NOT f, for "
                + "11; of 7 for NOT f, for 12");
        WayWatcher x = Fixtures.forkWithParts();
        for (int kind = 9; kind <= 12; kind++) {
            int made = x.formula(kind, P, Q);
            hasAWay(x, "kind " + kind, made, ~x.states(made));
        }
        way(x, "each next p", x.formula(9, P, 0), 0, "0 0 loop 1");
        way(x, "each next not p", x.formula(9, NOT_P, 0), 0, "0 1 2 loop 2");
        way(x, "each always not p", x.formula(11, NOT_P, 0), 0, "0 1 2 loop 2");
        way(x, "each always not p, at once", x.formula(11, NOT_P, 0), 3, "3 0 loop 1");
        way(x, "each ever q", x.formula(12, Q, 0), 0, "0 loop 0");
        x.fair(Q);
        way(x, "fair q: each next p", x.formula(9, P, 0), 0, "0 0 0 1 2 loop 4");
    }

    private static void wayOfEachUntil() {
        check.sentence("for 10, of 6 for NOT g and (NOT f and NOT g), if that holds, else of 7 for NOT "
                + "g");
        WayWatcher x = Fixtures.forkWithParts();
        way(x, "not p each until q: both hold", x.formula(10, NOT_P, Q), 0, "0 1 2 loop 2");
        way(x, "not p each until q: that of 6 alone", x.formula(10, NOT_P, Q), 1, "1 2 loop 1");
        way(x, "not q each until q: that of 7 alone", x.formula(10, NOT_Q, Q), 0, "0 loop 0");
        way(x, "p each until q: that of 6, at once", x.formula(10, P, Q), 0, "0 loop 0");
        int never = x.formula(2, TRUE, 0);
        way(x, "all each until never", x.formula(10, TRUE, never), 3, "3 0 loop 1");
        way(x, "never each until never", x.formula(10, never, never), 1, "1 2 loop 1");
        int made = x.formula(10, NOT_P, Q);
        x.fair(NOT_Q);
        // From 1 no fair way goes on, so that of 6 does not hold in 0 any more.
        way(x, "fair not q: that of 7", made, 0, "0 loop 0");
    }

    /** Bit 0 is near in 1, from where no fair way goes on, and farther off in 3, by 2. */
    private static void goesToFairStatesAlone() {
        check.sentence("let S be the states in which a fair way begins");
        WayWatcher x = new WayWatcher();
        x.move(0, 3, 1, 0, 0);
        x.move(0, 3, 2, 0, 0);
        x.move(2, 1, 1, 0, 0);
        x.formula(0, 0, 0);
        x.formula(0, 1, 0);
        int ever = x.formula(8, 0, 0);
        int next = x.formula(5, x.formula(1, 0, 0), 0);
        way(x, "bit 0, by any way", ever, 0, "0 1 loop 1");
        way(x, "next, by any way", next, 0, "0 1 loop 1");
        x.fair(1);
        way(x, "bit 0, by a fair way", ever, 0, "0 2 3 loop 2");
        way(x, "next, by a fair way", next, 0, "0 2 3 loop 2");
        check.refusesState("bit 0 next, by a fair way", () -> x.show(x.formula(5, 0, 0), 0));
    }

    /** From 1 it goes to 0 too, from where no fair way goes on. */
    private static void loopsWithinFairStates() {
        check.sentence("and a loop within S: not to a lesser follower that is not in S");
        WayWatcher x = new WayWatcher();
        x.move(1, 0, 0, 0, 1);
        x.formula(0, 0, 0);
        x.formula(1, 0, 0);
        x.formula(2, 1, 0);
        x.fair(0);
        String[] due = {"1 1 loop 1", "1 loop 0", "1 loop 0", "1 loop 0"};
        for (int kind = 5; kind <= 8; kind++) {
            way(x, "kind " + kind, x.formula(kind, 1, 1), 1, due[kind - 5]);
            way(x, "kind " + (kind + 4), x.formula(kind + 4, 2, 2), 1, due[kind - 5]);
        }
    }

    private static void lastStateIsLeftOut() {
        check.sentence("It is the states gone through till the loop is closed, without the last one "
                + "(which is where the loop begins).");
        WayWatcher x = Fixtures.counter();
        x.formula(1, 0, 0);
        check.equal("64 states", x.show(x.formula(7, 0, 0), 63), 64);
        check.equal("the first", x.shown(0), 63);
        check.equal("the last, before 63 again", x.shown(63), 62);
        check.refusesIndex("the one left out", () -> x.shown(64));
        check.equal("one more of kind 5", x.show(x.formula(5, 0, 0), 63), 65);
        check.equal("where the loop begins", x.loop(), 1);
        check.equal("the last of kind 5", x.shown(64), 63);
    }
}
