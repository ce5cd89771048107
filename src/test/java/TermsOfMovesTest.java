/** "Terms" on states, moves, followers, ways and sets: each sentence that names an edge. */
public final class TermsOfMovesTest {
    private static final Check check = new Check("TermsOfMovesTest");

    public static void main(String[] args) {
        bitsAreVariables();
        possibleByOn();
        possibleByOff();
        possibleByOnAndOff();
        setsAndClears();
        othersStayAsBefore();
        anyIsAny();
        anyGoesBeforeSetsAndClears();
        everyMoveBehindEveryState();
        followersOfAllPossibleMoves();
        followersWhereNoMoveIsPossible();
        waysAreWithoutEnd();
        setsAreLongs();
        check.end();
    }

    private static void bitsAreVariables() {
        check.sentence("A STATE is a number 0 .. 63; its BITS 0 .. 5 are variables, 1 or 0.");
        WayWatcher x = new WayWatcher();
        for (int bit = 0; bit < 6; bit++) {
            x.formula(0, bit, 0);
            for (int s = 0; s < 64; s++) {
                check.equal("bit " + bit + " of " + s, x.states(bit) >>> s & 1, s >> bit & 1);
            }
        }
    }

    /** Each move leads to 0 and 63, so that a move to the state itself is told from none. */
    private static void possible(String what, int on, int off, int s, boolean due) {
        WayWatcher x = new WayWatcher();
        x.move(on, off, 0, 63, 0);
        x.move(on, off, 63, 0, 0);
        check.equal(what + " in " + s, x.followers(s), due ? 1L | 1L << 63 : 1L << s);
    }

    private static void possibleByOn() {
        check.sentence("It is possible in a state in which all bits of ON are 1");
        for (int s = 0; s < 64; s++) {
            possible("on is empty", 0, 0, s, true);
            possible("on is full", 63, 0, s, s == 63);
            possible("on is the state", s, 0, s, true);
            for (int bit = 0; bit < 6; bit++) {
                possible("on is bit " + bit, 1 << bit, 0, s, (s >> bit & 1) == 1);
                possible("on is a bit more", s | 1 << bit, 0, s, (s >> bit & 1) == 1);
            }
        }
    }

    private static void possibleByOff() {
        check.sentence("It is possible in a state in which .. all of OFF are 0");
        for (int s = 0; s < 64; s++) {
            possible("off is full", 0, 63, s, s == 0);
            possible("off is all that is 0", 0, 63 ^ s, s, true);
            for (int bit = 0; bit < 6; bit++) {
                possible("off is bit " + bit, 0, 1 << bit, s, (s >> bit & 1) == 0);
                possible("off is a bit more", 0, 63 ^ s | 1 << bit, s, (s >> bit & 1) == 0);
            }
        }
    }

    private static void possibleByOnAndOff() {
        check.sentence("all bits of ON are 1 and all of OFF are 0: both at once");
        for (int s = 0; s < 64; s++) {
            possible("on and off name the state", s, 63 ^ s, s, true);
            possible("on and off name another state", s ^ 32, 31 ^ s, s, false);
            possible("on and off have a bit in common", 1, 1, s, false);
            possible("on and off are full", 63, 63, s, false);
        }
    }

    private static long behind(int s, int sets, int clears, int any) {
        WayWatcher x = new WayWatcher();
        x.move(0, 0, sets, clears, any);
        return x.followers(s);
    }

    private static void setsAndClears() {
        check.sentence("behind it all bits of SETS are 1, all of CLEARS 0");
        for (int s = 0; s < 64; s++) {
            check.equal("sets is full, from " + s, behind(s, 63, 0, 0), 1L << 63);
            check.equal("clears is full, from " + s, behind(s, 0, 63, 0), 1L);
            check.equal("both name a state, from " + s, behind(s, 38, 25, 0), 1L << 38);
            check.equal("as they are already, in " + s, behind(s, s, 63 ^ s, 0), 1L << s);
            check.equal("each bit turned, from " + s, behind(s, 63 ^ s, s, 0), 1L << (63 ^ s));
        }
    }

    private static void othersStayAsBefore() {
        check.sentence("and the others as before");
        for (int s = 0; s < 64; s++) {
            check.equal("all masks empty, in " + s, behind(s, 0, 0, 0), 1L << s);
            for (int bit = 0; bit < 6; bit++) {
                int weight = 1 << bit;
                check.equal("set " + bit + " in " + s, behind(s, weight, 0, 0), 1L << (s | weight));
                check.equal("clear " + bit + " in " + s, behind(s, 0, weight, 0), 1L << (s & ~weight));
            }
        }
    }

    private static void anyIsAny() {
        check.sentence("those of ANY are any");
        for (int s = 0; s < 64; s++) {
            check.equal("any is full, from " + s, behind(s, 0, 0, 63), -1L);
            for (int bit = 0; bit < 6; bit++) {
                long due = 1L << (s | 1 << bit) | 1L << (s & ~(1 << bit));
                check.equal("any is bit " + bit + " in " + s, behind(s, 0, 0, 1 << bit), due);
            }
        }
        check.equal("the least and the greatest bit", behind(0, 0, 0, 33), 1L | 2L | 1L << 32 | 1L << 33);
        check.equal("all but the least", behind(0, 0, 0, 62), 0x5555555555555555L);
        check.equal("all but the greatest", behind(63, 0, 0, 31), 0xFFFFFFFF00000000L);
    }

    private static void anyGoesBeforeSetsAndClears() {
        check.sentence("a bit of ANY is any even if it is in one of these");
        for (int s = 0; s < 64; s++) {
            check.equal("set and any, all, from " + s, behind(s, 63, 0, 63), -1L);
            check.equal("cleared and any, all, from " + s, behind(s, 0, 63, 63), -1L);
            for (int bit = 0; bit < 6; bit++) {
                int weight = 1 << bit;
                long due = 1L << (s | weight) | 1L << (s & ~weight);
                check.equal("set and any " + bit + " in " + s, behind(s, weight, 0, weight), due);
                check.equal("cleared and any " + bit + " in " + s, behind(s, 0, weight, weight), due);
            }
        }
        check.equal("one of two bits set", behind(0, 3, 0, 2), 1L << 1 | 1L << 3);
        check.equal("one of two bits cleared", behind(3, 0, 3, 2), 1L | 1L << 2);
    }

    /** All SETS with all CLEARS that may stand beside them, each pair with one mask of ANY. */
    private static void everyMoveBehindEveryState() {
        check.sentence("behind it all bits of SETS are 1, all of CLEARS 0, those of ANY are any");
        for (int sets = 0; sets < 64; sets++) {
            for (int clears = 0; clears < 64; clears++) {
                if ((sets & clears) == 0) {
                    behindAll(sets, clears, (sets ^ clears * 5) & 63);
                }
            }
        }
    }

    private static void behindAll(int sets, int clears, int any) {
        WayWatcher x = new WayWatcher();
        x.move(0, 0, sets, clears, any);
        for (int s = 0; s < 64; s++) {
            long due = 0;
            for (int t = 0; t < 64; t++) {
                boolean fits = ((t ^ (s & ~clears | sets)) & ~any) == 0;
                due |= fits ? 1L << t : 0;
            }
            check.equal(sets + ", " + clears + ", " + any + " from " + s, x.followers(s), due);
        }
    }

    private static void followersOfAllPossibleMoves() {
        check.sentence("FOLLOWERS of a state are the states behind its possible moves");
        WayWatcher x = new WayWatcher();
        x.move(1, 0, 0, 1, 0);
        x.move(1, 0, 2, 0, 0);
        x.move(2, 0, 4, 0, 0);
        check.equal("two moves are possible", x.followers(1), 1L | 1L << 3);
        check.equal("all three are", x.followers(3), 1L << 2 | 1L << 3 | 1L << 7);
        check.equal("one is", x.followers(2), 1L << 6);
        WayWatcher y = new WayWatcher();
        for (int bit = 0; bit < 6; bit++) {
            y.move(0, 0, 1 << bit, 0, 0);
            y.move(0, 0, 0, 1 << bit, 0);
        }
        check.equal("twelve moves, six of them to itself", y.followers(0), 0x0000000100010117L);
        y.move(0, 0, 63, 0, 0);
        y.move(0, 0, 0, 63, 0);
        y.move(0, 0, 42, 21, 0);
        y.move(0, 0, 21, 42, 0);
        check.equal("sixteen moves", y.followers(0), 0x8000040100210117L);
    }

    private static void followersWhereNoMoveIsPossible() {
        check.sentence("if there is none, the state itself");
        WayWatcher x = new WayWatcher();
        x.move(63, 63, 0, 63, 0);
        for (int s = 0; s < 64; s++) {
            check.equal("a move that is nowhere possible: " + s, x.followers(s), 1L << s);
        }
        x.move(63, 0, 0, 63, 0);
        for (int s = 0; s < 63; s++) {
            check.equal("a move that is possible in 63 alone: " + s, x.followers(s), 1L << s);
        }
        check.equal("a move leads away: not to itself any more", x.followers(63), 1L);
        x.move(0, 0, 0, 0, 0);
        check.equal("with a move to itself", x.followers(63), 1L | 1L << 63);
        check.equal("a move to itself alone", x.followers(0), 1L);
    }

    private static void waysAreWithoutEnd() {
        check.sentence("A WAY is states without end, each a follower of the one before.");
        WayWatcher x = Fixtures.line();
        Fixtures.literals(x);
        int last = Fixtures.onlyIn(x, 63);
        check.equal("where no move is possible it stays", x.states(x.formula(7, last, 0)), 1L << 63);
        check.equal("on each way", x.states(x.formula(11, last, 0)), 1L << 63);
        int length = x.show(x.formula(8, last, 0), 61);
        check.text("it is shown so", Fixtures.told(x, length), "61 62 63 loop 2");
        WayWatcher y = new WayWatcher();
        y.move(63, 0, 0, 63, 0);
        Fixtures.literals(y);
        int top = Fixtures.onlyIn(y, 63);
        check.equal("where a move is possible it goes", y.states(y.formula(7, top, 0)), 0L);
    }

    private static void setsAreLongs() {
        check.sentence("A SET of states is told as a long, bit s for state s.");
        WayWatcher x = new WayWatcher();
        check.equal("state 0 alone", x.followers(0), 1L);
        check.equal("state 31 alone", x.followers(31), 2147483648L);
        check.equal("state 32 alone", x.followers(32), 4294967296L);
        check.equal("state 63 alone", x.followers(63), Long.MIN_VALUE);
        int all = x.formula(1, 0, 0);
        check.equal("every state", x.states(all), -1L);
        check.equal("no state", x.states(x.formula(2, all, 0)), 0L);
        check.equal("the upper half", x.states(x.formula(0, 5, 0)), -4294967296L);
        check.equal("every second", x.states(x.formula(0, 0, 0)), 0xAAAAAAAAAAAAAAAAL);
    }
}
