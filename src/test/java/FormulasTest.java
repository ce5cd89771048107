/** Promises 4 and 7: formula, states. */
public final class FormulasTest {
    private static final Check check = new Check("FormulasTest");
    private static final int P = Fixtures.P;
    private static final int Q = Fixtures.Q;
    private static final int NOT_P = Fixtures.NOT_P;
    private static final int NOT_Q = Fixtures.NOT_Q;

    public static void main(String[] args) {
        countsFormulas();
        refusesKinds();
        refusesParts();
        takesPartsThatDoNotMatter();
        refusesStates();
        plainKinds();
        kindsOfWays();
        kindsOfFairWays();
        kindsWithoutFairWays();
        kindsInFewFairStates();
        goesThroughAllStates();
        followsWhatChanges();
        check.end();
    }

    private static void countsFormulas() {
        WayWatcher x = new WayWatcher();
        check.equal("first", x.formula(0, 5, 0), 0);
        for (int i = 1; i < 32; i++) {
            check.equal("formula " + i, x.formula(2, i - 1, 0), i);
        }
        check.refusesState("a 33rd", () -> x.formula(0, 0, 0));
        check.refusesState("a 33rd of the last", () -> x.formula(2, 31, 0));
        check.refusesArgument("a 33rd of itself", () -> x.formula(2, 32, 0));
        check.refusesArgument("a 33rd of no kind", () -> x.formula(13, 0, 0));
        check.equal("the last", x.states(31), 0xFFFFFFFFL);
    }

    private static void refusesKinds() {
        WayWatcher x = new WayWatcher();
        x.formula(1, 0, 0);
        for (int no : new int[] {-1, 13, Integer.MIN_VALUE, Integer.MAX_VALUE}) {
            check.refusesArgument("kind " + no, () -> x.formula(no, 0, 0));
            check.refusesArgument("variable " + no, () -> x.formula(0, no, 0));
        }
        check.refusesArgument("variable 6", () -> x.formula(0, 6, 0));
        check.equal("refused ones have no number", x.formula(1, 0, 0), 1);
    }

    private static void refusesParts() {
        WayWatcher x = new WayWatcher();
        x.formula(1, 0, 0);
        for (int no : new int[] {-1, 1, 2, 32, Integer.MIN_VALUE, Integer.MAX_VALUE}) {
            for (int kind = 2; kind <= 12; kind++) {
                int of = kind;
                check.refusesArgument("kind " + kind + " of " + no, () -> x.formula(of, no, 0));
            }
            for (int kind : new int[] {3, 4, 6, 10}) {
                check.refusesArgument("kind " + kind + " and " + no, () -> x.formula(kind, 0, no));
            }
        }
        check.equal("refused ones have no number", x.formula(1, 0, 0), 1);
    }

    private static void takesPartsThatDoNotMatter() {
        for (int free : new int[] {-1, 99, Integer.MIN_VALUE, Integer.MAX_VALUE}) {
            WayWatcher x = new WayWatcher();
            check.equal("variable with any g", x.formula(0, 0, free), 0);
            check.equal("all with any f and g", x.formula(1, free, free), 1);
            check.equal("all holds", x.states(1), -1L);
            check.refusesState("all has no way", () -> x.show(1, 0));
            for (int kind : new int[] {2, 5, 7, 8, 9, 11, 12}) {
                int made = x.formula(kind, 0, free);
                // Without moves each state goes on as it is, so but for NOT all are as the variable.
                long due = kind == 2 ? Fixtures.nibbles(0x5) : Fixtures.nibbles(0xA);
                check.equal("kind " + kind + " with any g", x.states(made), due);
            }
            check.equal("a way with any g", x.show(3, 1), 2);
        }
    }

    private static void refusesStates() {
        WayWatcher x = new WayWatcher();
        x.formula(1, 0, 0);
        check.equal("states(0)", x.states(0), -1L);
        for (int no : new int[] {-1, 1, 32, Integer.MIN_VALUE, Integer.MAX_VALUE}) {
            check.refusesArgument("states(" + no + ")", () -> x.states(no));
        }
    }

    private static void plainKinds() {
        WayWatcher x = Fixtures.fork();
        for (int bit = 0; bit < 6; bit++) {
            x.formula(0, bit, 0);
            for (int s = 0; s < 64; s++) {
                check.equal("bit " + bit + " of " + s, x.states(bit) >>> s & 1, s >> bit & 1);
            }
        }
        check.equal("all", x.states(x.formula(1, 0, 0)), -1L);
        check.equal("not", x.states(x.formula(2, 0, 1)), Fixtures.nibbles(0x5));
        check.equal("both", x.states(x.formula(3, 0, 1)), Fixtures.nibbles(0x8));
        check.equal("either", x.states(x.formula(4, 0, 1)), Fixtures.nibbles(0xE));
        check.equal("both of one", x.states(x.formula(3, 1, 1)), Fixtures.nibbles(0xC));
    }

    private static void nibble(WayWatcher x, String what, int kind, int f, int g, int due) {
        check.equal(what, x.states(x.formula(kind, f, g)), Fixtures.nibbles(due));
    }

    private static void kindsOfWays() {
        WayWatcher x = Fixtures.forkWithParts();
        nibble(x, "some next p", 5, P, 0, 0x1);
        nibble(x, "some next q", 5, Q, 0, 0x6);
        nibble(x, "p some until q", 6, P, Q, 0xE);
        nibble(x, "not q some until q", 6, NOT_Q, Q, 0xF);
        nibble(x, "some always not q", 7, NOT_Q, 0, 0x1);
        nibble(x, "some always q", 7, Q, 0, 0x4);
        nibble(x, "some ever p", 8, P, 0, 0xB);
        nibble(x, "each next p", 9, P, 0, 0x0);
        nibble(x, "each next q", 9, Q, 0, 0x6);
        nibble(x, "each next not q", 9, NOT_Q, 0, 0x9);
        nibble(x, "p each until q", 10, P, Q, 0xE);
        nibble(x, "not q each until q", 10, NOT_Q, Q, 0xE);
        nibble(x, "not p each until q", 10, NOT_P, Q, 0xC);
        nibble(x, "each always q", 11, Q, 0, 0x4);
        nibble(x, "each always not p", 11, NOT_P, 0, 0x4);
        nibble(x, "each ever q", 12, Q, 0, 0xE);
        nibble(x, "each ever p", 12, P, 0, 0xA);
    }

    private static void kindsOfFairWays() {
        WayWatcher x = Fixtures.forkWithParts();
        x.fair(Q);
        nibble(x, "fair q: some always not q", 7, NOT_Q, 0, 0x0);
        nibble(x, "fair q: each ever q", 12, Q, 0, 0xF);
        nibble(x, "fair q: not q each until q", 10, NOT_Q, Q, 0xF);
        nibble(x, "fair q: each ever p", 12, P, 0, 0xB);
        nibble(x, "fair q: each next q", 9, Q, 0, 0x6);
        nibble(x, "fair q: some next p", 5, P, 0, 0x1);
    }

    private static void kindsWithoutFairWays() {
        WayWatcher x = Fixtures.forkWithParts();
        x.fair(P);
        for (int kind = 5; kind <= 12; kind++) {
            nibble(x, "no fair way: kind " + kind, kind, P, Q, kind < 9 ? 0x0 : 0xF);
        }
        nibble(x, "no fair way: not", 2, P, 0, 0x5);
    }

    private static void kindsInFewFairStates() {
        WayWatcher x = Fixtures.forkWithParts();
        x.fair(NOT_Q);
        nibble(x, "fair in 0 and 3: some next p", 5, P, 0, 0x0);
        nibble(x, "fair in 0 and 3: some next not q", 5, NOT_Q, 0, 0x9);
        nibble(x, "fair in 0 and 3: some ever p", 8, P, 0, 0x8);
        nibble(x, "fair in 0 and 3: p some until q", 6, P, Q, 0x8);
        nibble(x, "fair in 0 and 3: some always q", 7, Q, 0, 0x0);
        nibble(x, "fair in 0 and 3: each next not p", 9, NOT_P, 0, 0xF);
        nibble(x, "fair in 0 and 3: each always not q", 11, NOT_Q, 0, 0x7);
        nibble(x, "fair in 0 and 3: p each until q", 10, P, Q, 0xE);
        nibble(x, "fair in 0 and 3: each ever q", 12, Q, 0, 0xE);
    }

    private static void goesThroughAllStates() {
        WayWatcher x = Fixtures.counter();
        Fixtures.literals(x);
        int last = Fixtures.onlyIn(x, 63);
        int notLast = x.formula(2, last, 0);
        check.equal("63 alone", x.states(last), 1L << 63);
        check.equal("some ever 63", x.states(x.formula(8, last, 0)), -1L);
        check.equal("each ever 63", x.states(x.formula(12, last, 0)), -1L);
        check.equal("some always not 63", x.states(x.formula(7, notLast, 0)), 0L);
        x.fair(last);
        check.equal("63 again and again", x.begins(), -1L);
        x.unfair();
        x.fair(notLast);
        check.equal("each ever 63, fair", x.states(x.formula(12, last, 0)), -1L);
    }

    private static void followsWhatChanges() {
        WayWatcher x = Fixtures.forkWithParts();
        int ever = x.formula(12, Q, 0);
        int next = x.formula(5, ever, 0);
        check.equal("at first", x.states(ever), Fixtures.nibbles(0xE));
        check.equal("at first, next", x.states(next), Fixtures.nibbles(0x7));
        x.fair(Q);
        check.equal("with fairness", x.states(ever), Fixtures.nibbles(0xF));
        check.equal("with fairness, next", x.states(next), Fixtures.nibbles(0xF));
        x.unfair();
        check.equal("without it again", x.states(ever), Fixtures.nibbles(0xE));
        x.move(1, 2, 0, 1, 0);
        check.equal("with a way back from 1 to 0", x.states(ever), Fixtures.nibbles(0xC));
        check.equal("with a way back, next", x.states(next), Fixtures.nibbles(0x6));
    }
}
