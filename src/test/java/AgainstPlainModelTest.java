import java.util.Random;

/** Runs of up to 512 calls, made from a fixed seed, each answer compared with the plain model's. */
public final class AgainstPlainModelTest {
    private static final int RUNS = 3000;

    private final Due due;
    private final Random random;
    private final String run;
    private final ClauseSearch x = new ClauseSearch();
    private final PlainModel model = new PlainModel();
    private int calls;

    private AgainstPlainModelTest(Due due, int seed) {
        this.due = due;
        this.random = new Random(seed);
        this.run = "run " + seed + ", ";
    }

    public static void main(String[] args) {
        Due due = new Due();
        for (int seed = 0; seed < RUNS; seed++) {
            AgainstPlainModelTest test = new AgainstPlainModelTest(due, seed);
            if (seed % 3 == 0) {
                test.anyCalls();
            } else {
                test.manyClauses(2 + seed % 3);
            }
        }
        due.end();
    }

    private void both(String call, Due.Call ofModel, Due.Call ofProgram) {
        calls++;
        due.is(run + "call " + calls + ": " + call, Due.answerOf(ofModel), ofProgram);
    }

    private void variables(int n) {
        both("variables(" + n + ")", () -> model.variables(n), () -> x.variables(n));
    }

    private void give(int l) {
        both("give(" + l + ")", () -> model.give(l), () -> x.give(l));
    }

    private void clause() {
        both("clause()", model::clause, x::clause);
    }

    private void solve() {
        both("solve()", model::solve, x::solve);
    }

    private void value(int v) {
        both("value(" + v + ")", () -> model.value(v), () -> x.value(v));
    }

    private void count(int what) {
        both("count(" + what + ")", () -> model.count(what), () -> x.count(what));
    }

    private int literal(int variables) {
        int v = 1 + random.nextInt(variables);
        return random.nextBoolean() ? v : -v;
    }

    /** Every call at any time, now and then with a wrong number. */
    private void anyCalls() {
        while (calls < 512) {
            int present = model.count(0);
            int kind = random.nextInt(100);
            if (kind < 5) {
                variables(present < 10 ? random.nextInt(3) : 395 + random.nextInt(10));
            } else if (kind < 55) {
                give(random.nextInt(2 * present + 3) - present - 1);
            } else if (kind < 70) {
                clause();
            } else if (kind < 80) {
                solve();
            } else if (kind < 95) {
                value(random.nextInt(present + 2));
            } else {
                count(random.nextInt(8) - 1);
            }
        }
    }

    /** Clauses of about one length come in between solves, until nothing is left. */
    private void manyClauses(int length) {
        int present = 5 + random.nextInt(14);
        variables(present);
        while (calls < 360) {
            for (int i = random.nextInt(12); i >= 0; i--) {
                newClause(present, Math.max(1, length + random.nextInt(3) - 1));
            }
            for (int i = random.nextInt(3); i >= 0; i--) {
                assumeAndSolve(present);
            }
        }
        for (int what = 0; what <= 5; what++) {
            count(what);
        }
    }

    private void newClause(int present, int length) {
        for (int i = 0; i < length; i++) {
            give(literal(present));
        }
        clause();
    }

    private void assumeAndSolve(int present) {
        for (int i = random.nextInt(4); i > 0; i--) {
            give(literal(present));
        }
        solve();
        for (int v = 1; v <= present && model.count(3) == 1; v++) {
            value(v);
        }
    }
}
