import java.util.List;
import java.util.Map;
import java.util.Random;

/**
 * Behind the 512th call all answers are free, but rule 7 of LANGUAGE.md speaks of any state: each call
 * ends, and throws nothing but what the document's face names for it.
 */
public final class LongUseTest {
    private static final Due DUE = new Due();
    private static final String ARGUMENT = "throws.IllegalArgumentException";
    private static final String STATE = "throws.IllegalStateException";
    private static final String BOUNDS = "throws.IndexOutOfBoundsException";
    private static final Map<String, List<String>> NAMED = Map.of(
            "variables", List.of(ARGUMENT, BOUNDS),
            "give", List.of(ARGUMENT, BOUNDS),
            "clause", List.of(STATE, BOUNDS),
            "solve", List.of(),
            "value", List.of(ARGUMENT, STATE),
            "count", List.of(ARGUMENT));

    public static void main(String[] args) {
        DUE.sentence("No call may ever throw by itself (only by a throw statement) or fail to end");
        clausesOf(1);
        clausesOf(2);
        clausesOf(20);
        for (int seed = 0; seed < 20; seed++) {
            anyCalls(seed);
        }
        DUE.end();
    }

    private static void play(String what, Script script) {
        ClauseSearch x = new ClauseSearch();
        for (int i = 0; i < script.steps.size(); i++) {
            Script.Step step = script.steps.get(i);
            DUE.is(what + ", call " + (i + 1) + ": " + step, "an end as it may be", () -> endOf(step, x));
        }
    }

    private static String endOf(Script.Step step, ClauseSearch x) {
        String answer = step.on(x);
        boolean asNamed = !answer.startsWith("throws.") || NAMED.get(step.name()).contains(answer);
        return asNamed ? "an end as it may be" : answer;
    }

    /** More clauses than there may be; a variable is true at most if one behind it is. */
    private static void clausesOf(int length) {
        Random random = new Random(length);
        Script script = new Script().variables(400);
        for (int i = 1; i <= 4100; i++) {
            for (int j = 1; j <= length; j++) {
                int v = 1 + random.nextInt(400);
                script.give(j == 1 ? -v : v);
            }
            script.clause();
            if (i % 500 == 0) {
                script.solve(1 + i / 500).value(400).solve(400, -1).solve();
            }
        }
        play("clauses of " + length, script.solve().value(1).count(1).count(4).count(5));
    }

    private static void anyCalls(int seed) {
        Random random = new Random(seed);
        Script script = new Script().variables(12);
        while (script.steps.size() < 6000) {
            switch (random.nextInt(16)) {
                case 0 -> script.variables(random.nextInt(450) - 10);
                case 1, 2, 3 -> script.clause();
                case 4 -> script.solve();
                case 5 -> script.value(random.nextInt(30) - 2);
                case 6 -> script.count(random.nextInt(8) - 1);
                default -> script.give(random.nextInt(30) - 15);
            }
        }
        play("seed " + seed, script);
    }
}
