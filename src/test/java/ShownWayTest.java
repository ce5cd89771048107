/** Promises 9 to 11: show, shown, loop. */
public final class ShownWayTest {
    private static final Check check = new Check("ShownWayTest");
    private static final int P = Fixtures.P;
    private static final int Q = Fixtures.Q;
    private static final int NOT_P = Fixtures.NOT_P;
    private static final int NOT_Q = Fixtures.NOT_Q;
    private static final int TRUE = Fixtures.TRUE;

    public static void main(String[] args) {
        waysOfTheFork();
        fairWaysOfTheFork();
        leastOfTheNearest();
        keepsWithinTheGround();
        goesToFairStatesAlone();
        goesByTheOrderOfFairness();
        refusesArguments();
        refusesWhereThereIsNoWay();
        throwingShowsNone();
        staysTillTheNext();
        refusesIndexes();
        hasAtMost250();
        check.end();
    }

    private static void way(WayWatcher x, String what, int f, int s, String due) {
        check.text(what + " from " + s, Fixtures.told(x, x.show(f, s)), due);
    }

    private static void waysOfTheFork() {
        WayWatcher x = Fixtures.forkWithParts();
        way(x, "some next p", x.formula(5, P, 0), 0, "0 1 2 loop 2");
        int until = x.formula(6, P, Q);
        way(x, "p some until q", until, 1, "1 2 loop 1");
        way(x, "p some until q", until, 2, "2 loop 0");
        way(x, "p some until q", until, 3, "3 0 loop 1");
        way(x, "some always not q", x.formula(7, NOT_Q, 0), 0, "0 loop 0");
        int ever = x.formula(8, P, 0);
        way(x, "some ever p", ever, 0, "0 1 2 loop 2");
        way(x, "some ever p", ever, 3, "3 0 loop 1");
        way(x, "each next p", x.formula(9, P, 0), 0, "0 0 loop 1");
        way(x, "p each until q", x.formula(10, P, Q), 0, "0 loop 0");
        way(x, "not q each until q", x.formula(10, NOT_Q, Q), 0, "0 loop 0");
        way(x, "not p each until q", x.formula(10, NOT_P, Q), 0, "0 1 2 loop 2");
        way(x, "each always not p", x.formula(11, NOT_P, 0), 0, "0 1 2 loop 2");
        way(x, "each ever q", x.formula(12, Q, 0), 0, "0 loop 0");
        way(x, "some next p", 5, 60, "60 61 62 loop 2");
    }

    private static void fairWaysOfTheFork() {
        WayWatcher x = Fixtures.forkWithParts();
        x.fair(Q);
        int all = x.formula(7, TRUE, 0);
        way(x, "fair q: some always all", all, 0, "0 0 1 2 loop 3");
        way(x, "fair q: each next p", x.formula(9, P, 0), 0, "0 0 0 1 2 loop 4");
        x.unfair();
        x.fair(NOT_Q);
        way(x, "fair not q: some next all", x.formula(5, TRUE, 0), 3, "3 0 loop 1");
        way(x, "fair not q: each next q", x.formula(9, Q, 0), 0, "0 0 loop 1");
        check.refusesState("fair not q: no fair way from 1", () -> x.show(all, 1));
    }

    /** 0 goes to 1, 2 and 3; only 2 and 3 go on to 4, 1 goes to 2, and 4 stays. */
    private static void leastOfTheNearest() {
        WayWatcher x = new WayWatcher();
        x.move(0, 7, 1, 0, 0);
        x.move(0, 7, 2, 0, 0);
        x.move(0, 7, 3, 0, 0);
        x.move(1, 6, 2, 1, 0);
        x.move(2, 4, 4, 3, 0);
        x.formula(0, 2, 0);
        way(x, "to bit 2", x.formula(8, 0, 0), 0, "0 2 4 loop 2");
        way(x, "some next", x.formula(5, x.formula(0, 1, 0), 0), 0, "0 2 4 loop 2");
    }

    /**
     * The near way from 8 to 4 leads through 2, without bit 3; the far one through 9, 10 and 11. And
     * 24 goes to 8.
     */
    private static void keepsWithinTheGround() {
        WayWatcher x = new WayWatcher();
        x.move(16, 0, 0, 16, 0);
        x.move(8, 23, 2, 8, 0);
        x.move(8, 23, 1, 0, 0);
        x.move(2, 13, 4, 2, 0);
        x.move(9, 6, 2, 1, 0);
        x.move(10, 5, 1, 0, 0);
        x.move(11, 4, 4, 11, 0);
        x.formula(0, 3, 0);
        x.formula(0, 2, 0);
        way(x, "bit 3 until bit 2", x.formula(6, 0, 1), 8, "8 9 10 11 4 loop 4");
        way(x, "ever bit 2", x.formula(8, 1, 0), 8, "8 2 4 loop 2");
        x.fair(1);
        int all = x.formula(7, x.formula(1, 0, 0), 0);
        way(x, "a round goes the near way", all, 24, "24 8 2 4 loop 3");
        int either = x.formula(7, x.formula(4, 0, 1), 0);
        way(x, "a round's first step keeps to the formula", either, 8, "8 9 10 11 4 loop 4");
        way(x, "a round keeps to the formula", either, 24, "24 8 9 10 11 4 loop 5");
    }

    /** Bit 0 is near in 1, from where no fair way goes on, and farther off in 3, by 2. */
    private static void goesToFairStatesAlone() {
        WayWatcher x = new WayWatcher();
        x.move(0, 3, 1, 0, 0);
        x.move(0, 3, 2, 0, 0);
        x.move(2, 1, 1, 0, 0);
        x.formula(0, 0, 0);
        x.formula(0, 1, 0);
        int ever = x.formula(8, 0, 0);
        way(x, "bit 0, by any way", ever, 0, "0 1 loop 1");
        x.fair(1);
        way(x, "bit 0, by a fair way", ever, 0, "0 2 3 loop 2");
        check.refusesState("bit 0 next, by a fair way", () -> x.show(x.formula(5, 0, 0), 0));
    }

    private static void goesByTheOrderOfFairness() {
        WayWatcher x = new WayWatcher();
        x.move(0, 0, 0, 0, 63);
        for (int bit = 0; bit < 3; bit++) {
            x.formula(0, bit, 0);
        }
        int all = x.formula(7, x.formula(1, 0, 0), 0);
        way(x, "no fairness", all, 9, "9 0 loop 1");
        x.fair(2);
        way(x, "bit 2", all, 9, "9 0 4 0 loop 2");
        x.fair(0);
        way(x, "bits 2 and 0", all, 9, "9 0 4 1 0 4 loop 3");
        x.fair(1);
        way(x, "bits 2, 0 and 1", all, 9, "9 0 4 1 2 0 4 1 loop 4");
        x.unfair();
        x.fair(0);
        x.fair(0);
        way(x, "bit 0 twice", all, 9, "9 0 1 0 loop 2");
    }

    private static void refusesArguments() {
        WayWatcher x = Fixtures.forkWithParts();
        int all = x.formula(7, TRUE, 0);
        for (int no : new int[] {-1, 64, Integer.MIN_VALUE, Integer.MAX_VALUE}) {
            check.refusesArgument("state " + no, () -> x.show(all, no));
            check.refusesArgument("formula " + no, () -> x.show(no, 0));
        }
        check.refusesArgument("the formula to come", () -> x.show(all + 1, 0));
        check.refusesArgument("a plain formula in no state", () -> x.show(P, 64));
        check.equal("state 63", x.show(all, 63), 2);
    }

    private static void refusesWhereThereIsNoWay() {
        WayWatcher x = Fixtures.forkWithParts();
        x.formula(3, P, Q);
        x.formula(4, P, Q);
        for (int f = 0; f <= 6; f++) {
            int plain = f;
            check.refusesState("plain formula " + f, () -> x.show(plain, 3));
        }
        noWay(x, "some next p", x.formula(5, P, 0), 1);
        noWay(x, "p some until q", x.formula(6, P, Q), 0);
        noWay(x, "some always p", x.formula(7, P, 0), 1);
        noWay(x, "some ever p", x.formula(8, P, 0), 2);
        noWay(x, "each next q", x.formula(9, Q, 0), 1);
        noWay(x, "p each until q", x.formula(10, P, Q), 1);
        noWay(x, "each always q", x.formula(11, Q, 0), 2);
        noWay(x, "each ever q", x.formula(12, Q, 0), 1);
        int never = x.formula(2, TRUE, 0);
        x.fair(never);
        for (int f = 0; f <= never; f++) {
            int any = f;
            check.refusesState("no fair way, formula " + f, () -> x.show(any, 0));
        }
    }

    private static void noWay(WayWatcher x, String what, int f, int s) {
        check.refusesState(what + " in " + s, () -> x.show(f, s));
    }

    private static void throwingShowsNone() {
        WayWatcher x = Fixtures.forkWithParts();
        int all = x.formula(7, TRUE, 0);
        Check.Call[] wrong = {
            () -> x.show(99, 0), () -> x.show(all, 64), () -> x.show(P, 0),
            () -> x.show(all, -1), () -> x.show(-1, 0)
        };
        for (Check.Call call : wrong) {
            check.equal("a way is shown", x.show(all, 3), 2);
            check.equal("its loop", x.loop(), 1);
            check.isTrue("a wrong show throws", !Check.outcome(call).equals("nothing"));
            check.equal("no loop behind it", x.loop(), -1);
            check.refusesIndex("no state behind it", () -> x.shown(0));
        }
    }

    private static void staysTillTheNext() {
        WayWatcher x = Fixtures.forkWithParts();
        int all = x.formula(7, TRUE, 0);
        int next = x.formula(5, P, 0);
        way(x, "first", next, 0, "0 1 2 loop 2");
        x.move(0, 0, 0, 0, 63);
        x.fair(P);
        x.states(next);
        x.begins();
        x.formula(5, Q, 0);
        check.refusesArgument("a wrong call of another kind", () -> x.fair(next));
        check.text("behind move and fair", Fixtures.told(x, 3), "0 1 2 loop 2");
        x.unfair();
        check.text("behind unfair", Fixtures.told(x, 3), "0 1 2 loop 2");
        way(x, "the next one", all, 5, "5 0 loop 1");
        check.refusesIndex("the first one's last", () -> x.shown(2));
    }

    private static void refusesIndexes() {
        WayWatcher x = Fixtures.forkWithParts();
        int next = x.formula(5, P, 0);
        check.equal("three states", x.show(next, 0), 3);
        check.equal("the last", x.shown(2), 2);
        for (int no : new int[] {-1, 3, 249, 250, Integer.MIN_VALUE, Integer.MAX_VALUE}) {
            check.refusesIndex("shown(" + no + ")", () -> x.shown(no));
        }
        check.text("still shown", Fixtures.told(x, 3), "0 1 2 loop 2");
    }

    /**
     * On the counter with fairness in 8, then 4, then 0 alone: the first round goes from s to 8, to 4
     * by 60 steps, to 0 by 60; the second goes to 8 by 8 steps and on as the first.
     */
    private static void hasAtMost250() {
        WayWatcher x = Fixtures.counter();
        Fixtures.literals(x);
        int[] goals = {Fixtures.onlyIn(x, 8), Fixtures.onlyIn(x, 4), Fixtures.onlyIn(x, 0)};
        int all = x.formula(7, x.formula(1, 0, 0), 0);
        check.equal("no fairness: all 64", x.show(all, 8), 64);
        check.equal("no fairness: the last", x.shown(63), 7);
        for (int f : goals) {
            x.fair(f);
        }
        check.equal("249", x.show(all, 7), 249);
        check.equal("250", x.show(all, 6), 250);
        check.equal("250: its loop", x.loop(), 122);
        for (int i = 0; i < 250; i++) {
            check.equal("250: shown(" + i + ")", x.shown(i), i + 6 & 63);
        }
        check.refusesIndex("250: shown(250)", () -> x.shown(250));
        check.unsupported("251", () -> x.show(all, 5));
        check.equal("251: no loop", x.loop(), -1);
        check.refusesIndex("251: no state", () -> x.shown(0));
        check.unsupported("many more", () -> x.show(all, 9));
        check.equal("a shorter one again", x.show(all, 7), 249);
    }
}
