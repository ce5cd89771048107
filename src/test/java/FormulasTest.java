/** Promises 4 and 7: formula, states. */
public final class FormulasTest {
    private static final Check check = new Check("FormulasTest");
    private static final int P = Fixtures.P;
    private static final int Q = Fixtures.Q;

    public static void main(String[] args) {
        answersNumbers();
        secondMattersForSomeKinds();
        firstMattersForAllButOne();
        refusesKinds();
        refusesFirsts();
        refusesSeconds();
        refusesVariables();
        refusesThe33rd();
        refusedFormulasAreNone();
        statesByTheMovesOfNow();
        statesByTheFairnessOfNow();
        refusesStates();
        check.end();
    }

    private static void answersNumbers() {
        check.sentence("A formula: its number.");
        WayWatcher x = new WayWatcher();
        check.equal("the first", x.formula(0, 0, 0), 0);
        for (int kind = 0; kind <= 12; kind++) {
            check.equal("kind " + kind, x.formula(kind, 0, 0), kind + 1);
        }
        check.equal("its like once more", x.formula(12, 0, 0), 14);
        check.equal("the first is as it was", x.states(0), Fixtures.nibbles(0xA));
    }

    private static void secondMattersForSomeKinds() {
        check.sentence("(g matters for kinds 3, 4, 6 and 10, ..)");
        for (int free : new int[] {-1, 1, 32, 99, Integer.MIN_VALUE, Integer.MAX_VALUE}) {
            WayWatcher x = new WayWatcher();
            check.equal("variable with any g", x.formula(0, 0, free), 0);
            check.equal("the variable", x.states(0), Fixtures.nibbles(0xA));
            for (int kind : new int[] {2, 5, 7, 8, 9, 11, 12}) {
                int made = x.formula(kind, 0, free);
                // Without moves each state goes on as it is, so but for NOT all are as the variable.
                long due = kind == 2 ? Fixtures.nibbles(0x5) : Fixtures.nibbles(0xA);
                check.equal("kind " + kind + " with any g", x.states(made), due);
            }
            for (int f = 2; f <= 4; f++) {
                check.equal("the way of formula " + f + " with any g", x.show(f, 1), f == 2 ? 2 : 1);
            }
            for (int f = 5; f <= 7; f++) {
                check.equal("the way of formula " + f + " with any g", x.show(f, 0), f == 5 ? 2 : 1);
            }
        }
        WayWatcher y = Fixtures.forkWithParts();
        for (int kind : new int[] {3, 4, 6, 10}) {
            long with = y.states(y.formula(kind, Fixtures.NOT_Q, P));
            check.isTrue("g matters for " + kind, with != y.states(y.formula(kind, Fixtures.NOT_Q, Q)));
        }
    }

    private static void firstMattersForAllButOne() {
        check.sentence("(.. f for all but 1.)");
        for (int free : new int[] {-1, 0, 1, 6, 32, 99, Integer.MIN_VALUE, Integer.MAX_VALUE}) {
            WayWatcher x = new WayWatcher();
            check.equal("all with any f and g", x.formula(1, free, free), 0);
            check.equal("all holds", x.states(0), -1L);
            check.refusesState("all has no way", () -> x.show(0, 0));
            check.equal("all is fair", x.fair(0), 1);
        }
        WayWatcher y = Fixtures.forkWithParts();
        for (int kind : new int[] {0, 2, 3, 4, 5, 6, 7, 8, 9, 10, 11, 12}) {
            long with = y.states(y.formula(kind, P, Q));
            long other = y.states(y.formula(kind, kind == 0 ? 1 : Fixtures.NOT_P, Q));
            check.isTrue("f matters for " + kind, with != other);
        }
    }

    private static void refusesKinds() {
        check.sentence("IllegalArgumentException: there is no such kind");
        WayWatcher x = new WayWatcher();
        check.equal("the least kind", x.formula(0, 0, 0), 0);
        check.equal("the greatest kind", x.formula(12, 0, 0), 1);
        for (int no : new int[] {-1, 13, -13, 64, 256, Integer.MIN_VALUE, Integer.MAX_VALUE}) {
            check.refusesArgument("kind " + no, () -> x.formula(no, 0, 0));
            check.refusesArgument("kind " + no + " of none", () -> x.formula(no, -1, -1));
        }
        check.equal("refused ones have no number", x.formula(1, 0, 0), 2);
    }

    private static void refusesFirsts() {
        check.sentence("IllegalArgumentException: .. or f .. is no formula");
        WayWatcher x = new WayWatcher();
        for (int kind = 2; kind <= 12; kind++) {
            int of = kind;
            check.refusesArgument("kind " + kind + " with no formula made", () -> x.formula(of, 0, 0));
        }
        x.formula(1, 0, 0);
        x.formula(1, 0, 0);
        for (int no : new int[] {-1, 2, 3, 31, 32, Integer.MIN_VALUE, Integer.MAX_VALUE}) {
            for (int kind = 2; kind <= 12; kind++) {
                int of = kind;
                check.refusesArgument("kind " + kind + " of " + no, () -> x.formula(of, no, 1));
            }
        }
        check.equal("refused ones have no number", x.formula(2, 1, 0), 2);
        check.equal("what was refused, now that it is there", x.formula(2, 2, 0), 3);
    }

    private static void refusesSeconds() {
        check.sentence("IllegalArgumentException: .. or g, if it matters, is no formula");
        WayWatcher x = new WayWatcher();
        x.formula(1, 0, 0);
        x.formula(1, 0, 0);
        for (int no : new int[] {-1, 2, 3, 31, 32, Integer.MIN_VALUE, Integer.MAX_VALUE}) {
            for (int kind : new int[] {3, 4, 6, 10}) {
                check.refusesArgument("kind " + kind + " and " + no, () -> x.formula(kind, 1, no));
            }
        }
        check.equal("refused ones have no number", x.formula(3, 1, 1), 2);
        check.equal("what was refused, now that it is there", x.formula(4, 0, 2), 3);
    }

    private static void refusesVariables() {
        check.sentence("(for kind 0: f is not 0 .. 5)");
        WayWatcher x = new WayWatcher();
        for (int no : new int[] {-1, 6, 7, 63, Integer.MIN_VALUE, Integer.MAX_VALUE}) {
            check.refusesArgument("variable " + no, () -> x.formula(0, no, 0));
        }
        check.equal("variable 5, with no formula made", x.formula(0, 5, 0), 0);
        check.equal("its states", x.states(0), 0xFFFFFFFF00000000L);
        for (int i = 1; i <= 7; i++) {
            check.equal("variable 0", x.formula(0, 0, 0), i);
        }
        check.refusesArgument("variable 6, though there is formula 6", () -> x.formula(0, 6, 0));
        check.equal("refused ones have no number", x.formula(0, 0, 0), 8);
    }

    private static void refusesThe33rd() {
        check.sentence("IllegalStateException: there are 32.");
        WayWatcher x = new WayWatcher();
        x.formula(0, 5, 0);
        for (int i = 1; i < 31; i++) {
            x.formula(2, i - 1, 0);
        }
        check.equal("the 32nd", x.formula(2, 30, 0), 31);
        for (int kind = 0; kind <= 12; kind++) {
            int of = kind;
            check.refusesState("a 33rd of kind " + kind, () -> x.formula(of, 0, 0));
        }
        check.refusesState("a 33rd of the 32nd", () -> x.formula(2, 31, 0));
        check.refusesArgument("a 33rd of itself", () -> x.formula(2, 32, 0));
        check.refusesArgument("a 33rd of no kind", () -> x.formula(13, 0, 0));
        check.refusesArgument("a 33rd of no variable", () -> x.formula(0, 6, 0));
        check.refusesArgument("there is no formula 32", () -> x.states(32));
        check.equal("the last is as it was", x.states(31), 0xFFFFFFFFL);
        check.equal("the first is as it was", x.states(0), 0xFFFFFFFF00000000L);
    }

    private static void refusedFormulasAreNone() {
        check.sentence("a refused formula is none");
        WayWatcher x = new WayWatcher();
        x.formula(0, 0, 0);
        check.refusesArgument("no such kind", () -> x.formula(13, 0, 0));
        check.refusesArgument("no such part", () -> x.formula(2, 1, 0));
        check.refusesArgument("its states", () -> x.states(1));
        check.refusesArgument("its way", () -> x.show(1, 0));
        check.refusesArgument("its fairness", () -> x.fair(1));
        check.equal("the one before is as it was", x.states(0), Fixtures.nibbles(0xA));
    }

    private static void statesByTheMovesOfNow() {
        check.sentence("The states in which a formula holds, by the moves .. as they are now.");
        WayWatcher x = new WayWatcher();
        x.formula(0, 0, 0);
        int ever = x.formula(8, 0, 0);
        int next = x.formula(9, ever, 0);
        check.equal("no moves", x.states(next), Fixtures.nibbles(0xA));
        x.move(2, 1, 1, 0, 0);
        check.equal("a move from 2 to 3", x.states(ever), Fixtures.nibbles(0xE));
        check.equal("one that it is a part of", x.states(next), Fixtures.nibbles(0xE));
        x.move(0, 3, 2, 0, 0);
        check.equal("a move from 0 to 2", x.states(ever), Fixtures.nibbles(0xF));
        check.equal("the variable is as it was", x.states(0), Fixtures.nibbles(0xA));
    }

    private static void statesByTheFairnessOfNow() {
        check.sentence("The states in which a formula holds, by .. the fairness as they are now.");
        WayWatcher x = Fixtures.forkWithParts();
        int ever = x.formula(12, Q, 0);
        int next = x.formula(5, ever, 0);
        check.equal("at first", x.states(ever), Fixtures.nibbles(0xE));
        check.equal("at first, next", x.states(next), Fixtures.nibbles(0x7));
        x.fair(Q);
        check.equal("with fairness", x.states(ever), Fixtures.nibbles(0xF));
        check.equal("with fairness, next", x.states(next), Fixtures.nibbles(0xF));
        x.fair(P);
        check.equal("with no fair way", x.states(ever), Fixtures.nibbles(0xF));
        check.equal("with no fair way, next", x.states(next), 0L);
        x.unfair();
        check.equal("without it again", x.states(ever), Fixtures.nibbles(0xE));
        x.move(1, 2, 0, 1, 0);
        check.equal("with a way back from 1 to 0", x.states(ever), Fixtures.nibbles(0xC));
        check.equal("with a way back, next", x.states(next), Fixtures.nibbles(0x6));
    }

    private static void refusesStates() {
        check.sentence("states: IllegalArgumentException: there is none.");
        WayWatcher x = new WayWatcher();
        for (int count = 0; count <= 2; count++) {
            for (int no : new int[] {-1, count, count + 1, 31, 32, Integer.MIN_VALUE, Integer.MAX_VALUE}) {
                check.refusesArgument(count + " made: states(" + no + ")", () -> x.states(no));
            }
            x.formula(1, 0, 0);
            check.equal("states(" + count + ")", x.states(count), -1L);
        }
    }
}
