/** Promises 9 to 11: show, shown, loop. */
public final class ShownWayTest {
    private static final Check check = new Check("ShownWayTest");
    private static final int P = Fixtures.P;
    private static final int Q = Fixtures.Q;
    private static final int TRUE = Fixtures.TRUE;
    private static final int[] NO_INDEXES = {-1, 250, 251, -250, Integer.MIN_VALUE, Integer.MAX_VALUE};

    public static void main(String[] args) {
        answersHowManyStates();
        isShownFromNowOn();
        refusesNoFormula();
        refusesNoState();
        refusesPlainFormulas();
        refusesWhereThereIsNoWay();
        refusesWhereNoWayIsFair();
        hasAtMost250();
        refusesMoreThan250OfEachKind();
        throwingShowsNone();
        tooLongShowsNone();
        staysWhateverMovesBecome();
        staysWhateverFairnessBecomes();
        staysBehindRefusedCalls();
        staysTillTheNext();
        refusesIndexes();
        refusesIndexesWhereNoneIsShown();
        answersWhereTheLoopBegins();
        loopIsNoneWhenNoneIsShown();
        answersTheLastOf512Calls();
        check.end();
    }

    private static void way(WayWatcher x, String what, int f, int s, String due) {
        check.text(what + " from " + s, Fixtures.told(x, x.show(f, s)), due);
    }

    private static void answersHowManyStates() {
        check.sentence("The way of formula f in state s is shown from now on: how many states it has.");
        WayWatcher x = Fixtures.forkWithParts();
        int all = x.formula(7, TRUE, 0);
        check.equal("one, the fewest", x.show(all, 2), 1);
        check.equal("two", x.show(all, 3), 2);
        check.equal("in the greatest state", x.show(all, 63), 2);
        WayWatcher y = Fixtures.line();
        y.formula(1, 0, 0);
        y.formula(7, 0, 0);
        check.equal("all states", y.show(1, 0), 64);
        check.equal("one again", y.show(1, 63), 1);
    }

    private static void isShownFromNowOn() {
        check.sentence("The way .. is shown from now on");
        WayWatcher x = Fixtures.forkWithParts();
        int next = x.formula(5, P, 0);
        int all = x.formula(7, TRUE, 0);
        way(x, "the first", next, 0, "0 1 2 loop 2");
        way(x, "a shorter one", all, 2, "2 loop 0");
        check.refusesIndex("the first one's second", () -> x.shown(1));
        way(x, "a longer one", next, 60, "60 61 62 loop 2");
        way(x, "the same once more", next, 60, "60 61 62 loop 2");
    }

    private static void refusesNoFormula() {
        check.sentence("show: IllegalArgumentException: there is no such formula");
        WayWatcher x = new WayWatcher();
        check.refusesArgument("no formula made", () -> x.show(0, 0));
        x.formula(1, 0, 0);
        int all = x.formula(7, 0, 0);
        for (int no : new int[] {-1, all + 1, 31, 32, Integer.MIN_VALUE, Integer.MAX_VALUE}) {
            check.refusesArgument("formula " + no, () -> x.show(no, 0));
            check.refusesArgument("formula " + no + " in no state", () -> x.show(no, 64));
        }
        check.equal("the last formula", x.show(all, 0), 1);
    }

    private static void refusesNoState() {
        check.sentence("show: IllegalArgumentException: there is no such .. state");
        WayWatcher x = new WayWatcher();
        x.formula(1, 0, 0);
        int all = x.formula(7, 0, 0);
        for (int no : new int[] {-1, 64, 65, 128, -64, Integer.MIN_VALUE, Integer.MAX_VALUE}) {
            check.refusesArgument("state " + no, () -> x.show(all, no));
            check.refusesArgument("state " + no + " of a plain formula", () -> x.show(0, no));
        }
        check.equal("state 0", x.show(all, 0), 1);
        check.equal("state 63", x.show(all, 63), 1);
    }

    private static void refusesPlainFormulas() {
        check.sentence("show: IllegalStateException: there is no shown way: of kinds 0 to 4");
        WayWatcher x = Fixtures.forkWithParts();
        x.formula(3, P, Q);
        x.formula(4, P, Q);
        for (int f = 0; f <= 6; f++) {
            for (int s = 0; s < 64; s += 21) {
                noWay(x, "plain formula " + f, f, s);
            }
        }
        int all = x.formula(7, TRUE, 0);
        noWay(x, "a plain formula of ways", x.formula(2, all, 0), 0);
        noWay(x, "both, of ways", x.formula(3, all, all), 0);
        noWay(x, "either, of ways", x.formula(4, all, all), 0);
    }

    private static void refusesWhereThereIsNoWay() {
        check.sentence("show: IllegalStateException: there is no shown way");
        WayWatcher x = Fixtures.forkWithParts();
        noWay(x, "some next p", x.formula(5, P, 0), 1);
        noWay(x, "p some until q", x.formula(6, P, Q), 0);
        noWay(x, "some always p", x.formula(7, P, 0), 1);
        noWay(x, "some ever p", x.formula(8, P, 0), 2);
        noWay(x, "each next q", x.formula(9, Q, 0), 1);
        noWay(x, "p each until q", x.formula(10, P, Q), 1);
        noWay(x, "each always q", x.formula(11, Q, 0), 2);
        noWay(x, "each ever q", x.formula(12, Q, 0), 1);
        noWay(x, "each ever all", x.formula(12, TRUE, 0), 0);
    }

    private static void refusesWhereNoWayIsFair() {
        check.sentence("show: IllegalStateException: there is no shown way: where no way is fair");
        WayWatcher x = Fixtures.forkWithParts();
        int never = x.formula(2, TRUE, 0);
        x.fair(never);
        for (int kind = 5; kind <= 12; kind++) {
            noWay(x, "kind " + kind + " of all", x.formula(kind, TRUE, TRUE), 0);
            noWay(x, "kind " + kind + " of never", x.formula(kind, never, never), 63);
        }
    }

    private static void noWay(WayWatcher x, String what, int f, int s) {
        check.refusesState(what + " in " + s, () -> x.show(f, s));
    }

    /** From s = 8 downwards the first round takes 8 - s + 120 steps, and the second takes 128. */
    private static void hasAtMost250() {
        check.sentence("UnsupportedOperationException: it has more than 250.");
        WayWatcher x = Fixtures.farGoals();
        int all = x.formula(7, Fixtures.FAR_ALL, 0);
        check.equal("249", x.show(all, 7), 249);
        check.equal("250", x.show(all, 6), 250);
        check.equal("250: its loop", x.loop(), 122);
        for (int i = 0; i < 250; i++) {
            check.equal("250: shown(" + i + ")", x.shown(i), i + 6 & 63);
        }
        check.refusesIndex("250: shown(250)", () -> x.shown(250));
        check.unsupported("251", () -> x.show(all, 5));
        check.unsupported("252", () -> x.show(all, 4));
        check.unsupported("as many as can be here", () -> x.show(all, 8));
        check.equal("a shorter one again", x.show(all, 7), 249);
        check.equal("its first", x.shown(0), 7);
    }

    private static void refusesMoreThan250OfEachKind() {
        check.sentence("UnsupportedOperationException: it has more than 250: of each kind");
        WayWatcher x = Fixtures.farGoals();
        for (int kind = 5; kind <= 12; kind++) {
            int part = kind < 9 ? Fixtures.FAR_ALL : Fixtures.FAR_NEVER;
            int made = x.formula(kind, part, part);
            check.equal("kind " + kind + ": 250", x.show(made, 6), 250);
            check.equal("kind " + kind + ": the last", x.shown(249), 63);
            check.unsupported("kind " + kind + ": 251", () -> x.show(made, 5));
        }
        int always = x.formula(10, Fixtures.FAR_ALL, Fixtures.FAR_NEVER);
        check.equal("kind 10 by that of 7: 250", x.show(always, 6), 250);
        check.unsupported("kind 10 by that of 7: 251", () -> x.show(always, 5));
    }

    private static void throwingShowsNone() {
        check.sentence("(When it throws, no way is shown.)");
        WayWatcher x = Fixtures.forkWithParts();
        int all = x.formula(7, TRUE, 0);
        int always = x.formula(7, P, 0);
        Check.Call[] wrong = {
            () -> x.show(99, 0), () -> x.show(-1, 0), () -> x.show(all, 64), () -> x.show(all, -1),
            () -> x.show(P, 0), () -> x.show(always, 1)
        };
        for (Check.Call call : wrong) {
            check.equal("a way is shown", x.show(all, 3), 2);
            check.equal("its loop", x.loop(), 1);
            check.isTrue("a wrong show throws", !Check.outcome(call).equals("nothing"));
            noneIsShown("behind it", x);
        }
    }

    private static void tooLongShowsNone() {
        check.sentence("(When it throws, no way is shown.) too long");
        WayWatcher x = Fixtures.farGoals();
        int all = x.formula(7, Fixtures.FAR_ALL, 0);
        check.unsupported("251 on none", () -> x.show(all, 5));
        noneIsShown("251 on none", x);
        check.equal("a way is shown", x.show(all, 6), 250);
        check.unsupported("251 on a way", () -> x.show(all, 5));
        noneIsShown("251 on a way", x);
    }

    private static void noneIsShown(String what, WayWatcher x) {
        check.equal(what + ": no loop", x.loop(), -1);
        for (int i : new int[] {-1, 0, 1, 249, 250}) {
            check.refusesIndex(what + ": no state " + i, () -> x.shown(i));
        }
    }

    private static void staysWhateverMovesBecome() {
        check.sentence("State i of the shown way (which stays, whatever moves .. become ..)");
        WayWatcher x = Fixtures.forkWithParts();
        int next = x.formula(5, P, 0);
        x.show(next, 0);
        for (int made = 4; made <= 16; made++) {
            x.move(0, 0, 0, 63, 63);
            check.text("behind move " + made, Fixtures.told(x, 3), "0 1 2 loop 2");
        }
        check.refusesState("a 17th move", () -> x.move(0, 0, 0, 0, 0));
        check.text("behind a 17th move", Fixtures.told(x, 3), "0 1 2 loop 2");
        way(x, "by the new moves", next, 0, "0 1 0 loop 2");
    }

    private static void staysWhateverFairnessBecomes() {
        check.sentence("State i of the shown way (which stays, whatever .. fairness become ..)");
        WayWatcher x = Fixtures.forkWithParts();
        int all = x.formula(7, TRUE, 0);
        x.show(all, 0);
        for (int made = 1; made <= 3; made++) {
            x.fair(P);
            check.text("behind fair " + made, Fixtures.told(x, 1), "0 loop 0");
        }
        check.equal("no way is fair", x.begins(), 0L);
        check.text("behind begins", Fixtures.told(x, 1), "0 loop 0");
        x.unfair();
        check.text("behind unfair", Fixtures.told(x, 1), "0 loop 0");
        x.fair(Q);
        way(x, "by the new fairness", all, 0, "0 0 1 2 loop 3");
    }

    private static void staysBehindRefusedCalls() {
        check.sentence("State i of the shown way (which stays .. till the next show()): behind refused "
                + "calls");
        WayWatcher x = Fixtures.forkWithParts();
        int next = x.formula(5, P, 0);
        x.show(next, 0);
        Check.Call[] refused = {
            () -> x.move(64, 0, 0, 0, 0), () -> x.followers(64), () -> x.formula(13, 0, 0),
            () -> x.fair(next), () -> x.fair(99), () -> x.states(99), () -> x.shown(3), () -> x.shown(-1)
        };
        for (Check.Call call : refused) {
            check.isTrue("a wrong call throws", !Check.outcome(call).equals("nothing"));
            check.text("behind it", Fixtures.told(x, 3), "0 1 2 loop 2");
        }
    }

    private static void staysTillTheNext() {
        check.sentence("State i of the shown way (which stays .. till the next show())");
        WayWatcher x = Fixtures.forkWithParts();
        int next = x.formula(5, P, 0);
        way(x, "the first", next, 0, "0 1 2 loop 2");
        int ever = x.formula(8, Q, 0);
        x.states(ever);
        x.states(next);
        x.followers(0);
        x.begins();
        check.text("behind calls that only ask", Fixtures.told(x, 3), "0 1 2 loop 2");
        way(x, "the next", ever, 4, "4 5 6 loop 2");
        way(x, "and the next", ever, 6, "6 loop 0");
    }

    private static void refusesIndexes() {
        check.sentence("shown: IndexOutOfBoundsException: there is none.");
        WayWatcher x = Fixtures.forkWithParts();
        int next = x.formula(5, P, 0);
        check.equal("three states", x.show(next, 0), 3);
        check.equal("the first", x.shown(0), 0);
        check.equal("the last", x.shown(2), 2);
        check.refusesIndex("the one behind it, where the loop begins", () -> x.shown(3));
        for (int no : NO_INDEXES) {
            check.refusesIndex("shown(" + no + ")", () -> x.shown(no));
        }
        check.equal("one state", x.show(x.formula(7, TRUE, 0), 2), 1);
        check.equal("the first and last", x.shown(0), 2);
        check.refusesIndex("what an earlier way had", () -> x.shown(1));
    }

    private static void refusesIndexesWhereNoneIsShown() {
        check.sentence("shown: IndexOutOfBoundsException: there is none: where no way is shown");
        WayWatcher x = Fixtures.forkWithParts();
        noneIsShown("at first", x);
        for (int no : NO_INDEXES) {
            check.refusesIndex("shown(" + no + ")", () -> x.shown(no));
        }
    }

    private static void answersWhereTheLoopBegins() {
        check.sentence("Which state of the shown way (from 0) its loop begins with");
        WayWatcher x = Fixtures.counter();
        x.formula(1, 0, 0);
        int all = x.formula(7, 0, 0);
        x.show(all, 9);
        check.equal("with the first", x.loop(), 0);
        WayWatcher y = Fixtures.line();
        y.formula(1, 0, 0);
        y.formula(7, 0, 0);
        y.show(1, 0);
        check.equal("with the last", y.loop(), 63);
        y.show(1, 63);
        check.equal("with the first, which is the last", y.loop(), 0);
        y.show(y.formula(5, 0, 0), 63);
        check.equal("with the second, which is the same state", y.loop(), 1);
    }

    private static void loopIsNoneWhenNoneIsShown() {
        check.sentence("-1 when none is shown");
        WayWatcher x = Fixtures.forkWithParts();
        check.equal("at first", x.loop(), -1);
        int all = x.formula(7, TRUE, 0);
        check.equal("with a formula that has a way", x.loop(), -1);
        x.show(all, 0);
        check.equal("a way is shown", x.loop(), 0);
        check.refusesState("no way", () -> x.show(P, 0));
        check.equal("behind a show that threw", x.loop(), -1);
        x.show(all, 0);
        check.equal("a way again", x.loop(), 0);
    }

    private static void answersTheLastOf512Calls() {
        check.sentence("An object is used for at most 512 calls after it has been made");
        WayWatcher x = new WayWatcher();
        x.formula(1, 0, 0);
        int all = x.formula(7, 0, 0);
        for (int made = 3; made <= 511; made += 3) {
            check.equal("call " + made, x.show(all, made & 63), 1);
            check.equal("call " + (made + 1), x.shown(0), made & 63);
            check.equal("call " + (made + 2), x.loop(), 0);
        }
    }
}
