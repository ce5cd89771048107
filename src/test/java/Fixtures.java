/** Machines and formulas that several tests use. */
final class Fixtures {
    /** The formulas of forkWithParts(): bit 0, bit 1, what is not so of them, and ALL. */
    static final int P = 0;
    static final int Q = 1;
    static final int NOT_P = 2;
    static final int NOT_Q = 3;
    static final int TRUE = 4;

    private Fixtures() {
    }

    /**
     * By bits 0 and 1: 0 goes to 0 and 1, 1 to 2, 3 to 0, and 2 has no move. The other bits stay, so
     * each set of states is one nibble sixteen times over.
     */
    static WayWatcher fork() {
        WayWatcher x = new WayWatcher();
        x.move(0, 3, 0, 0, 1);
        x.move(1, 2, 2, 1, 0);
        x.move(3, 0, 0, 3, 0);
        return x;
    }

    static WayWatcher forkWithParts() {
        WayWatcher x = fork();
        x.formula(0, 0, 0);
        x.formula(0, 1, 0);
        x.formula(2, P, 0);
        x.formula(2, Q, 0);
        x.formula(1, 0, 0);
        return x;
    }

    /** State s goes to s + 1, and 63 has no move. */
    static WayWatcher line() {
        WayWatcher x = new WayWatcher();
        for (int bit = 0; bit < 6; bit++) {
            x.move((1 << bit) - 1, 1 << bit, 1 << bit, (1 << bit) - 1, 0);
        }
        return x;
    }

    /** State s goes to s + 1, and 63 to 0. */
    static WayWatcher counter() {
        WayWatcher x = line();
        x.move(63, 0, 0, 63, 0);
        return x;
    }

    static long nibbles(int nibble) {
        return nibble * 0x1111111111111111L;
    }

    /** Formulas 0 .. 5 are the variables and 6 .. 11 what is not so of them. */
    static void literals(WayWatcher x) {
        for (int bit = 0; bit < 6; bit++) {
            x.formula(0, bit, 0);
        }
        for (int bit = 0; bit < 6; bit++) {
            x.formula(2, bit, 0);
        }
    }

    /** Behind literals(): a formula that holds in one state alone. */
    static int onlyIn(WayWatcher x, int s) {
        int made = (s & 1) != 0 ? 0 : 6;
        for (int bit = 1; bit < 6; bit++) {
            made = x.formula(3, made, (s >> bit & 1) != 0 ? bit : bit + 6);
        }
        return made;
    }

    /** By bits 0 and 1: formulas 4 .. 7 hold in one of the states 0 .. 3 alone, and 8 in none. */
    static void fourStates(WayWatcher x) {
        x.formula(0, 0, 0);
        x.formula(0, 1, 0);
        x.formula(2, 0, 0);
        x.formula(2, 1, 0);
        x.formula(3, 2, 3);
        x.formula(3, 0, 3);
        x.formula(3, 2, 1);
        x.formula(3, 0, 1);
        x.formula(3, 0, 2);
    }

    /** Behind fourStates(): a formula that holds in a set of these four; it makes at most 3. */
    static int anyOfFour(WayWatcher x, int set) {
        int made = 8;
        for (int s = 0; s < 4; s++) {
            if ((set >> s & 1) != 0) {
                made = made == 8 ? 4 + s : x.formula(4, made, 4 + s);
            }
        }
        return made;
    }

    /** The formulas behind those of farGoals(). */
    static final int FAR_ALL = 20;
    static final int FAR_NEVER = 21;

    /**
     * The counter with fairness in 8, then in 4, then in 0 alone. A round from s goes on to 8, to 4 by
     * 60 steps and to 0 by 60; one from 0 goes to 8 by 8 steps and on as the others, and closes.
     */
    static WayWatcher farGoals() {
        WayWatcher x = counter();
        literals(x);
        int low = x.formula(3, x.formula(3, x.formula(3, 6, 7), 10), 11);
        int eight = x.formula(3, x.formula(3, low, 3), 8);
        int below = x.formula(3, low, 9);
        int four = x.formula(3, below, 2);
        int zero = x.formula(3, below, 8);
        x.formula(1, 0, 0);
        x.formula(2, FAR_ALL, 0);
        x.fair(eight);
        x.fair(four);
        x.fair(zero);
        return x;
    }

    /** The shown way and where its loop begins, as one text. */
    static String told(WayWatcher x, int length) {
        StringBuilder text = new StringBuilder();
        for (int i = 0; i < length; i++) {
            text.append(x.shown(i)).append(' ');
        }
        return text.append("loop ").append(x.loop()).toString();
    }
}
