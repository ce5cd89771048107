import java.util.Random;

/** Long runs of calls, right and wrong ones, on the program and on the model, answer for answer. */
public final class ModelTest {
    private static final int RUNS = 240;
    /** The document frees what an object answers after so many calls. */
    private static final int MAX_CALLS = 512;

    private final Check check;
    private final Random random;
    private final int run;
    private final WayWatcher watcher = new WayWatcher();
    private final Model model = new Model();
    private final int moveLimit;
    private int moves;
    private int formulas;
    private int shownLength;
    private int calls;

    private ModelTest(Check check, int run) {
        this.check = check;
        this.run = run;
        random = new Random(run);
        moveLimit = random.nextInt(18);
    }

    public static void main(String[] args) {
        Check check = new Check("ModelTest");
        for (int run = 0; run < RUNS && !check.anyWrong(); run++) {
            ModelTest test = new ModelTest(check, run);
            test.prepare();
            while (test.calls < MAX_CALLS && !check.anyWrong()) {
                test.someCall();
            }
        }
        check.end();
    }

    private void prepare() {
        if (run % 4 == 0) {
            count();
        }
        if (run % 8 == 0) {
            farGoals();
        }
        for (int i = 0; i < 8; i++) {
            formula();
        }
    }

    /** Fairness of single states on the counter: ways of about 250 states. */
    private void farGoals() {
        for (int bit = 0; bit < 6; bit++) {
            formulaOf(0, bit, 0);
            formulaOf(2, 2 * bit, 0);
        }
        for (int goal = 0; goal < 3; goal++) {
            formulaOf(3, random.nextInt(2), 2 + random.nextInt(2));
            for (int bit = 2; bit < 6; bit++) {
                formulaOf(3, formulas - 1, 2 * bit + random.nextInt(2));
            }
            fairOf(formulas - 1);
        }
        formulaOf(1, 0, 0);
        formulaOf(7, formulas - 1, 0);
    }

    /** A counter goes through all 64 states, so that long ways come up too. */
    private void count() {
        for (int bit = 0; bit < 6; bit++) {
            moveOf((1 << bit) - 1, 1 << bit, 1 << bit, (1 << bit) - 1, 0);
        }
        moveOf(63, 0, 0, 63, 0);
    }

    private void someCall() {
        int dice = random.nextInt(100);
        if (dice < 6) {
            move();
        } else if (dice < 12) {
            formula();
        } else if (dice < 16) {
            fair();
        } else if (dice < 17) {
            unfair();
        } else if (dice < 25) {
            followers();
        } else if (dice < 40) {
            states();
        } else if (dice < 45) {
            same("begins()", () -> watcher.begins(), () -> model.begins());
        } else if (dice < 85) {
            show();
        } else {
            shown();
        }
    }

    /** Most often 0 .. bound - 1, now and then a number beside that. */
    private int number(int bound) {
        if (random.nextInt(20) == 0) {
            return random.nextInt(3) == 0 ? random.nextInt() : random.nextInt(bound + 2) - 1;
        }
        return random.nextInt(Math.max(1, bound));
    }

    private int mask() {
        if (random.nextInt(60) == 0) {
            return random.nextBoolean() ? 64 : -1;
        }
        return random.nextInt(64) & random.nextInt(64);
    }

    private void move() {
        if (moves >= moveLimit) {
            followers();
            return;
        }
        int sets = mask();
        int clears = random.nextInt(20) == 0 ? mask() : mask() & ~sets;
        int any = random.nextInt(3) == 0 ? mask() & mask() : 0;
        moveOf(mask(), mask(), sets, clears, any);
    }

    private void moveOf(int on, int off, int sets, int clears, int any) {
        moves++;
        String call = "move(" + on + ", " + off + ", " + sets + ", " + clears + ", " + any + ")";
        same(call, () -> watcher.move(on, off, sets, clears, any),
                () -> model.move(on, off, sets, clears, any));
    }

    private void formula() {
        int kind = formulas < 2 ? random.nextInt(2)
                : random.nextInt(3) == 0 ? random.nextInt(5) : number(13);
        formulaOf(kind, kind == 0 ? number(6) : number(formulas), number(formulas));
    }

    private void formulaOf(int kind, int f, int g) {
        String call = "formula(" + kind + ", " + f + ", " + g + ")";
        if (same(call, () -> watcher.formula(kind, f, g), () -> model.formula(kind, f, g))) {
            formulas++;
        }
    }

    private void fair() {
        fairOf(number(formulas));
    }

    private void fairOf(int f) {
        same("fair(" + f + ")", () -> watcher.fair(f), () -> model.fair(f));
    }

    private void unfair() {
        calls++;
        watcher.unfair();
        model.unfair();
    }

    private void followers() {
        int s = number(64);
        same("followers(" + s + ")", () -> watcher.followers(s), () -> model.followers(s));
    }

    private void states() {
        int f = number(formulas);
        same("states(" + f + ")", () -> watcher.states(f), () -> model.states(f));
    }

    private void show() {
        int f = number(formulas);
        int s = number(64);
        same("show(" + f + ", " + s + ")", () -> watcher.show(f, s), () -> model.show(f, s));
        shownLength = 0;
        same("loop()", () -> watcher.loop(), () -> model.loop());
        while (shownLength < 251 && Check.outcome(() -> model.shown(shownLength)).equals("nothing")) {
            shownLength++;
        }
        // A long way is looked at here and there alone, or it would take all calls of the run.
        for (int i = 0; i < shownLength; i += 1 + random.nextInt(1 + shownLength / 8)) {
            int at = i;
            same("shown(" + i + ")", () -> watcher.shown(at), () -> model.shown(at));
        }
    }

    private void shown() {
        int i = number(shownLength);
        same("shown(" + i + ")", () -> watcher.shown(i), () -> model.shown(i));
        same("loop()", () -> watcher.loop(), () -> model.loop());
    }

    /** A call that answers a number. */
    private interface Asked {
        long answer();
    }

    /** Whether the call was made and did not throw. */
    private boolean same(String call, Asked asked, Asked due) {
        if (calls >= MAX_CALLS) {
            return false;
        }
        calls++;
        String told = told(asked);
        check.text("run " + run + ": " + call, told, told(due));
        return !told.endsWith("Exception");
    }

    private static String told(Asked asked) {
        try {
            return Long.toString(asked.answer());
        } catch (RuntimeException e) {
            return e.getClass().getSimpleName();
        }
    }
}
