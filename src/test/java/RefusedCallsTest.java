import java.util.ArrayList;
import java.util.List;

/**
 * "A call that throws changes nothing.": runs are played once as they are and once with a refused
 * call at one place, for every place and each likely call that is refused there; all else must be alike.
 */
public final class RefusedCallsTest {
    private static final Due DUE = new Due();

    public static void main(String[] args) {
        DUE.sentence("A call that throws changes nothing.");
        refuseEverywhere("first steps", new Script().variables(1).give(1).clause().solve().variables(2));
        refuseEverywhere("a yes, then a no", new Script().variables(3).clause(1, 2).clause(-2, 3).solve(-1)
                .give(-3).solve(-1).solve(2).give(3, -1));
        refuseEverywhere("no way for good", new Script().variables(2).clause(1).clause(-1, 2).clause(-2)
                .solve().give(1).variables(1).solve());
        refuseEverywhere("a full row", new Script().variables(2).clause(2).solve().give(Calls.times(19, 1))
                .give(-1).clause().solve().give(Calls.times(19, 1)).give(-1).solve());
        refuseEverywhere("no variable", new Script().solve().solve());
        refuseEverywhere("all variables", new Script().variables(399).solve().variables(1).clause(400, -399)
                .solve(399).solve(-400).give(-1));
        DUE.end();
    }

    private static void refuseEverywhere(String run, Script script) {
        for (int place = 0; place <= script.steps.size(); place++) {
            refuseAt(place, run, script);
        }
    }

    private static void refuseAt(int place, String run, Script script) {
        List<String> due = play(script, place, null);
        for (Script.Step refused : refusedAt(script, place)) {
            DUE.is(run + ", " + refused + " behind " + place + " calls", due, () -> play(script, place, refused));
        }
    }

    /** The answers to all calls, and what the object shows behind the refused call and at the end. */
    private static List<String> play(Script script, int place, Script.Step refused) {
        ClauseSearch x = new ClauseSearch();
        List<String> answers = new ArrayList<>();
        for (int i = 0; i <= script.steps.size(); i++) {
            if (i == place) {
                if (refused != null) {
                    refused.on(x);
                }
                look(x, answers);
            }
            if (i < script.steps.size()) {
                answers.add(script.steps.get(i).on(x));
            }
        }
        look(x, answers);
        return answers;
    }

    private static void look(ClauseSearch x, List<String> answers) {
        answers.add(Calls.counts(x));
        int variables = x.count(0);
        for (int v = 1; v <= variables; v += v == 1 && variables > 20 ? variables - 2 : 1) {
            answers.add(new Script.Step("value", v).on(x));
        }
    }

    /** Those of the likely calls that the plain model refuses at this place, each seen to throw its due. */
    private static List<Script.Step> refusedAt(Script script, int place) {
        List<Script.Step> refused = new ArrayList<>();
        for (Script.Step step : likely(script, place)) {
            PlainModel model = new PlainModel();
            ClauseSearch x = new ClauseSearch();
            for (Script.Step before : script.steps.subList(0, place)) {
                before.on(model);
                before.on(x);
            }
            String due = step.on(model);
            if (due.startsWith("throws.")) {
                refused.add(step);
                DUE.is(step + " behind " + place + " calls", due, () -> step.on(x));
            }
        }
        return refused;
    }

    private static List<Script.Step> likely(Script script, int place) {
        PlainModel model = new PlainModel();
        script.steps.subList(0, place).forEach(step -> step.on(model));
        int present = model.count(0);
        Script calls = new Script();
        for (int n : new int[] {0, -1, 401 - present, 400, 401, Integer.MIN_VALUE, Integer.MAX_VALUE}) {
            calls.variables(n);
        }
        calls.give(0, 1, -1, present, present + 1, -present - 1, Integer.MIN_VALUE, Integer.MAX_VALUE);
        for (int v : new int[] {0, -1, 1, present, present + 1, Integer.MIN_VALUE, Integer.MAX_VALUE}) {
            calls.value(v);
        }
        for (int what : new int[] {-1, 6, Integer.MIN_VALUE, Integer.MAX_VALUE}) {
            calls.count(what);
        }
        return calls.clause().steps;
    }
}
