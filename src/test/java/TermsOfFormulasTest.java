/** "Terms" on formulas, their kinds, and fairness: each sentence that names an edge. */
public final class TermsOfFormulasTest {
    private static final Check check = new Check("TermsOfFormulasTest");
    private static final int P = Fixtures.P;
    private static final int Q = Fixtures.Q;
    private static final int NOT_P = Fixtures.NOT_P;
    private static final int NOT_Q = Fixtures.NOT_Q;
    private static final int TRUE = Fixtures.TRUE;
    private static final int[] KINDS_OF_WAYS = {5, 6, 7, 8, 9, 10, 11, 12};

    public static void main(String[] args) {
        numbersUpTo31();
        partsHaveLesserNumbers();
        variables();
        plainKinds();
        someNextIsTheSecondState();
        someUntil();
        someAlwaysIsInAll();
        someEverIsInOne();
        eachOf64FollowersCounts();
        eachIsOnEveryWay();
        eachIsSomeWhereThereIsOneWay();
        kindsOfFairWays();
        kindsWithoutFairWays();
        kindsInFewFairStates();
        atMost3OfFairness();
        kindsBelow5AreFair();
        fairIsWithoutEnd();
        fairIsForEachOfThese();
        withNoneAllWaysAreFair();
        check.end();
    }

    private static void numbersUpTo31() {
        check.sentence("FORMULAS are numbered 0, 1, .. as they are made, at most 32");
        WayWatcher x = new WayWatcher();
        for (int i = 0; i < 32; i++) {
            check.equal("formula " + i, x.formula(i % 2, i % 6, 0), i);
        }
        check.refusesState("formula 32", () -> x.formula(0, 0, 0));
        for (int i = 0; i < 32; i++) {
            long due = i % 2 == 1 ? -1L : i % 6 == 0 ? Fixtures.nibbles(0xA)
                    : i % 6 == 2 ? 0xF0F0F0F0F0F0F0F0L : 0xFFFF0000FFFF0000L;
            check.equal("states(" + i + ")", x.states(i), due);
        }
    }

    private static void partsHaveLesserNumbers() {
        check.sentence("f and g are lesser numbers");
        WayWatcher x = new WayWatcher();
        x.formula(0, 0, 0);
        for (int number = 1; number < 32; number++) {
            int itself = number;
            check.refusesArgument("f is itself", () -> x.formula(2, itself, 0));
            check.refusesArgument("g is itself", () -> x.formula(4, 0, itself));
            check.equal("f is the one before", x.formula(2, number - 1, number), number);
        }
        check.equal("31 times not", x.states(31), Fixtures.nibbles(0x5));
    }

    private static void variables() {
        check.sentence("0 VARIABLE f (0 .. 5): that bit is 1");
        WayWatcher x = Fixtures.counter();
        long[] due = {
            0xAAAAAAAAAAAAAAAAL, 0xCCCCCCCCCCCCCCCCL, 0xF0F0F0F0F0F0F0F0L,
            0xFF00FF00FF00FF00L, 0xFFFF0000FFFF0000L, 0xFFFFFFFF00000000L
        };
        for (int bit = 0; bit < 6; bit++) {
            check.equal("variable " + bit, x.states(x.formula(0, bit, 0)), due[bit]);
        }
        check.refusesArgument("variable -1", () -> x.formula(0, -1, 0));
        check.refusesArgument("variable 6", () -> x.formula(0, 6, 0));
    }

    private static void plainKinds() {
        check.sentence("1 ALL: always; 2 NOT: f does not hold; 3 BOTH: f and g hold; 4 EITHER: f or g "
                + "holds.");
        WayWatcher x = Fixtures.forkWithParts();
        int never = x.formula(2, TRUE, 0);
        // No way is fair then, which is no matter to a formula that does not speak of ways.
        x.fair(never);
        check.equal("all", x.states(TRUE), -1L);
        check.equal("not all", x.states(never), 0L);
        nibble(x, "not", 2, P, Q, 0x5);
        nibble(x, "not not", 2, NOT_P, Q, 0xA);
        nibble(x, "both", 3, P, Q, 0x8);
        nibble(x, "both of one", 3, Q, Q, 0xC);
        nibble(x, "both of one and its not", 3, P, NOT_P, 0x0);
        nibble(x, "both of one and never", 3, P, never, 0x0);
        nibble(x, "both of one and all", 3, P, TRUE, 0xA);
        nibble(x, "either", 4, P, Q, 0xE);
        nibble(x, "either of one", 4, Q, Q, 0xC);
        nibble(x, "either one or its not", 4, P, NOT_P, 0xF);
        nibble(x, "either one or never", 4, P, never, 0xA);
        nibble(x, "either never or never", 4, never, never, 0x0);
    }

    private static void nibble(WayWatcher x, String what, int kind, int f, int g, int due) {
        check.equal(what, x.states(x.formula(kind, f, g)), Fixtures.nibbles(due));
    }

    /** Where a kind holds on the line 0, 1, .. 63, of parts that are told by words. */
    private static long onLine(int kind, String f, String g) {
        WayWatcher x = Fixtures.line();
        Fixtures.literals(x);
        int first = part(x, f);
        return x.states(x.formula(kind, first, part(x, g)));
    }

    /** Behind literals(): "all", "never", "upper" (32 .. 63), "only 7", "but 7". */
    private static int part(WayWatcher x, String told) {
        String[] words = told.split(" ");
        switch (words[0]) {
            case "all":
                return x.formula(1, 0, 0);
            case "never":
                return x.formula(2, x.formula(1, 0, 0), 0);
            case "upper":
                return 5;
            case "only":
                return Fixtures.onlyIn(x, Integer.parseInt(words[1]));
            default:
                return x.formula(2, Fixtures.onlyIn(x, Integer.parseInt(words[1])), 0);
        }
    }

    private static void line(String what, int kind, String f, long due) {
        check.equal(what, onLine(kind, f, "all"), due);
    }

    private static void lineUntil(String what, String f, String g, long due) {
        check.equal(what, onLine(6, f, g), due);
    }

    private static void someNextIsTheSecondState() {
        check.sentence("5 SOME NEXT: on some fair way from the state, f holds in the second state");
        line("63: from 62, and from 63 itself", 5, "only 63", 3L << 62);
        line("0: from nowhere, not from itself", 5, "only 0", 0L);
        line("1: from 0 alone", 5, "only 1", 1L);
        line("all but 63", 5, "but 63", Long.MAX_VALUE >>> 1);
        line("all", 5, "all", -1L);
        line("never", 5, "never", 0L);
    }

    private static void someUntil() {
        check.sentence("6 SOME UNTIL: on some fair way from it, g holds in some state, and f in all "
                + "before that");
        lineUntil("g at once, f nowhere", "never", "only 63", 1L << 63);
        lineUntil("g behind 63 steps", "all", "only 63", -1L);
        lineUntil("f is not needed where g holds", "but 63", "only 63", -1L);
        lineUntil("g never, though f always", "all", "never", 0L);
        lineUntil("g everywhere, f nowhere", "never", "all", -1L);
        lineUntil("f in the upper half alone", "upper", "only 63", 0xFFFFFFFF00000000L);
        lineUntil("f fails in the state just before", "but 62", "only 63", 1L << 63);
        lineUntil("f in the state just before alone", "only 62", "only 63", 3L << 62);
        lineUntil("f fails in the first alone", "but 0", "only 63", -2L);
        lineUntil("g in the first alone", "all", "only 0", 1L);
    }

    private static void someAlwaysIsInAll() {
        check.sentence("7 SOME ALWAYS: on some fair way from it f holds in all");
        line("all", 7, "all", -1L);
        line("never", 7, "never", 0L);
        line("in 63 alone", 7, "only 63", 1L << 63);
        line("in all but 63", 7, "but 63", 0L);
        line("in all but 62", 7, "but 62", 1L << 63);
        line("in all but 0", 7, "but 0", -2L);
        line("in 0 alone", 7, "only 0", 0L);
        line("in the upper half", 7, "upper", 0xFFFFFFFF00000000L);
    }

    private static void someEverIsInOne() {
        check.sentence("8 SOME EVER: likewise in some");
        line("all", 8, "all", -1L);
        line("never", 8, "never", 0L);
        line("in 63 alone, 63 steps off", 8, "only 63", -1L);
        line("in 0 alone: at once, or not at all", 8, "only 0", 1L);
        line("in 62 alone", 8, "only 62", Long.MAX_VALUE);
    }

    private static void eachOf64FollowersCounts() {
        check.sentence("on some fair way from the state: by any of its followers, the last of 64 too");
        for (int goal = 0; goal < 64; goal++) {
            WayWatcher x = new WayWatcher();
            x.move(0, 0, 0, 0, 63);
            Fixtures.literals(x);
            int only = Fixtures.onlyIn(x, goal);
            check.equal("some next " + goal, x.states(x.formula(5, only, 0)), -1L);
            check.equal("some ever " + goal, x.states(x.formula(8, only, 0)), -1L);
            check.equal("some always " + goal, x.states(x.formula(7, only, 0)), 1L << goal);
            check.equal("each ever " + goal, x.states(x.formula(12, only, 0)), 1L << goal);
            x.fair(only);
            check.equal("again and again " + goal, x.begins(), -1L);
        }
    }

    private static void eachIsOnEveryWay() {
        check.sentence("9 EACH NEXT, 10 EACH UNTIL, 11 EACH ALWAYS, 12 EACH EVER: likewise on every fair "
                + "way from it.");
        WayWatcher x = Fixtures.forkWithParts();
        nibble(x, "some next p", 5, P, 0, 0x1);
        nibble(x, "each next p", 9, P, 0, 0x0);
        nibble(x, "some next q", 5, Q, 0, 0x6);
        nibble(x, "each next q", 9, Q, 0, 0x6);
        nibble(x, "each next not q", 9, NOT_Q, 0, 0x9);
        nibble(x, "p some until q", 6, P, Q, 0xE);
        nibble(x, "p each until q", 10, P, Q, 0xE);
        nibble(x, "not q some until q", 6, NOT_Q, Q, 0xF);
        nibble(x, "not q each until q", 10, NOT_Q, Q, 0xE);
        nibble(x, "not p each until q", 10, NOT_P, Q, 0xC);
        nibble(x, "some always not q", 7, NOT_Q, 0, 0x1);
        nibble(x, "each always not q", 11, NOT_Q, 0, 0x0);
        nibble(x, "some always q", 7, Q, 0, 0x4);
        nibble(x, "each always q", 11, Q, 0, 0x4);
        nibble(x, "each always not p", 11, NOT_P, 0, 0x4);
        nibble(x, "some ever p", 8, P, 0, 0xB);
        nibble(x, "each ever p", 12, P, 0, 0xA);
        nibble(x, "some ever q", 8, Q, 0, 0xF);
        nibble(x, "each ever q", 12, Q, 0, 0xE);
    }

    private static void eachIsSomeWhereThereIsOneWay() {
        check.sentence("9 to 12: likewise on every fair way from it: where there is one way, as 5 to "
                + "8");
        String[] parts = {"all", "never", "upper", "only 63", "but 63", "only 0", "but 0"};
        for (int some = 5; some <= 8; some++) {
            for (String f : parts) {
                for (String g : parts) {
                    String what = "kind " + (some + 4) + " of " + f + ", " + g;
                    check.equal(what, onLine(some + 4, f, g), onLine(some, f, g));
                }
            }
        }
    }

    private static void kindsOfFairWays() {
        check.sentence("on some fair way, on every fair way: a way that is not fair does not count");
        WayWatcher x = Fixtures.forkWithParts();
        x.fair(Q);
        nibble(x, "fair q: some always not q", 7, NOT_Q, 0, 0x0);
        nibble(x, "fair q: each ever q", 12, Q, 0, 0xF);
        nibble(x, "fair q: not q each until q", 10, NOT_Q, Q, 0xF);
        nibble(x, "fair q: each ever p", 12, P, 0, 0xB);
        nibble(x, "fair q: each next q", 9, Q, 0, 0x6);
        nibble(x, "fair q: some next p", 5, P, 0, 0x1);
    }

    private static void kindsWithoutFairWays() {
        check.sentence("on some fair way, on every fair way: where there is none, no kind 5 to 8 and each "
                + "9 to 12 holds");
        WayWatcher x = Fixtures.forkWithParts();
        x.fair(P);
        for (int kind : KINDS_OF_WAYS) {
            nibble(x, "no fair way: kind " + kind, kind, TRUE, TRUE, kind < 9 ? 0x0 : 0xF);
        }
        int never = x.formula(2, TRUE, 0);
        for (int kind : KINDS_OF_WAYS) {
            nibble(x, "no fair way, never: kind " + kind, kind, never, never, kind < 9 ? 0x0 : 0xF);
        }
    }

    private static void kindsInFewFairStates() {
        check.sentence("on some fair way, on every fair way: in some states there is none");
        WayWatcher x = Fixtures.forkWithParts();
        x.fair(NOT_Q);
        nibble(x, "fair in 0 and 3: some next p", 5, P, 0, 0x0);
        nibble(x, "fair in 0 and 3: some next not q", 5, NOT_Q, 0, 0x9);
        nibble(x, "fair in 0 and 3: some ever p", 8, P, 0, 0x8);
        nibble(x, "fair in 0 and 3: p some until q", 6, P, Q, 0x8);
        nibble(x, "fair in 0 and 3: g at once", 6, P, TRUE, 0x9);
        nibble(x, "fair in 0 and 3: some always q", 7, Q, 0, 0x0);
        nibble(x, "fair in 0 and 3: each next not p", 9, NOT_P, 0, 0xF);
        nibble(x, "fair in 0 and 3: each always not q", 11, NOT_Q, 0, 0x7);
        nibble(x, "fair in 0 and 3: p each until q", 10, P, Q, 0xE);
        nibble(x, "fair in 0 and 3: each ever q", 12, Q, 0, 0xE);
    }

    private static void atMost3OfFairness() {
        check.sentence("FAIRNESS is a row of at most 3 formulas");
        WayWatcher x = new WayWatcher();
        for (int bit = 0; bit < 4; bit++) {
            x.formula(0, bit, 0);
        }
        check.equal("one", x.fair(0), 1);
        check.equal("two", x.fair(1), 2);
        check.equal("three", x.fair(2), 3);
        check.refusesState("four", () -> x.fair(3));
        check.equal("the fourth is none of them", x.begins(), 0x8080808080808080L);
    }

    /** By promise 5 it is the kinds that must be below 5: a formula of any number may be fair. */
    private static void kindsBelow5AreFair() {
        check.sentence("FAIRNESS is a row of .. formulas, with numbers and kinds below 5");
        WayWatcher x = new WayWatcher();
        x.formula(0, 0, 0);
        x.formula(1, 0, 0);
        x.formula(2, 0, 0);
        x.formula(3, 0, 1);
        x.formula(4, 0, 1);
        for (int kind = 0; kind <= 4; kind++) {
            check.equal("kind " + kind, x.fair(kind), 1);
            x.unfair();
        }
        for (int kind : KINDS_OF_WAYS) {
            int made = x.formula(kind, 0, 0);
            check.refusesArgument("kind " + kind, () -> x.fair(made));
        }
        for (int number = 13; number < 32; number++) {
            check.equal("number " + number, x.fair(x.formula(number % 5, 0, 0)), 1);
            x.unfair();
        }
    }

    private static void fairIsWithoutEnd() {
        check.sentence("a way is FAIR if for each of these it holds in states of the way again and again "
                + "without end");
        begins("in 63, where each way stays", Fixtures.line(), "only 63", -1L);
        begins("in 62, which each way meets but once", Fixtures.line(), "only 62", 0L);
        begins("in all but 63, which a way leaves", Fixtures.line(), "but 63", 0L);
        begins("in all", Fixtures.line(), "all", -1L);
        begins("never", Fixtures.line(), "never", 0L);
        begins("in 62, with a way back", Fixtures.counter(), "only 62", -1L);
        begins("in 0, with a way back", Fixtures.counter(), "only 0", -1L);
        begins("in 63 alone, where nothing moves", new WayWatcher(), "only 63", 1L << 63);
        begins("in 0 alone, where nothing moves", new WayWatcher(), "only 0", 1L);
    }

    private static void begins(String what, WayWatcher x, String fair, long due) {
        Fixtures.literals(x);
        x.fair(part(x, fair));
        check.equal(what, x.begins(), due);
    }

    private static void fairIsForEachOfThese() {
        check.sentence("FAIR if for each of these it holds in states of the way: not in the same ones");
        WayWatcher x = Fixtures.counter();
        Fixtures.literals(x);
        int[] goals = {Fixtures.onlyIn(x, 63), Fixtures.onlyIn(x, 0), Fixtures.onlyIn(x, 31)};
        for (int f : goals) {
            x.fair(f);
            check.equal("in one state each", x.begins(), -1L);
        }
        for (int odd = 0; odd < 3; odd++) {
            WayWatcher y = Fixtures.forkWithParts();
            for (int i = 0; i < 3; i++) {
                y.fair(i == odd ? NOT_Q : Q);
                check.equal("one that goes with none of the others, at " + odd, y.begins(),
                        odd > i ? -1L : odd == 0 && i == 0 ? Fixtures.nibbles(0x9) : 0L);
            }
        }
    }

    private static void withNoneAllWaysAreFair() {
        check.sentence("(With none, all ways are fair.)");
        WayWatcher x = new WayWatcher();
        check.equal("no moves", x.begins(), -1L);
        x.move(63, 0, 0, 63, 0);
        check.equal("a move", x.begins(), -1L);
        WayWatcher y = Fixtures.forkWithParts();
        nibble(y, "some always all", 7, TRUE, 0, 0xF);
        y.fair(P);
        y.unfair();
        nibble(y, "none any more: some always all", 7, TRUE, 0, 0xF);
        check.equal("none any more", y.begins(), -1L);
    }
}
