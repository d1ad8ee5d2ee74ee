import java.util.ArrayList;
import java.util.List;

/** Calls written down, so that they can be made of the program and of the plain model alike. */
final class Script {
    final List<Step> steps = new ArrayList<>();

    /** One call with its number, if it takes one. */
    record Step(String name, int with) {
        String on(ClauseSearch x) {
            return Due.answerOf(() -> switch (name) {
                case "variables" -> x.variables(with);
                case "give" -> x.give(with);
                case "clause" -> x.clause();
                case "solve" -> x.solve();
                case "value" -> x.value(with);
                default -> x.count(with);
            });
        }

        String on(PlainModel model) {
            return Due.answerOf(() -> switch (name) {
                case "variables" -> model.variables(with);
                case "give" -> model.give(with);
                case "clause" -> model.clause();
                case "solve" -> model.solve();
                case "value" -> model.value(with);
                default -> model.count(with);
            });
        }

        @Override
        public String toString() {
            return name.equals("clause") || name.equals("solve") ? name + "()" : name + "(" + with + ")";
        }
    }

    Script variables(int n) {
        return add("variables", n);
    }

    Script give(int... literals) {
        for (int l : literals) {
            add("give", l);
        }
        return this;
    }

    Script clause(int... literals) {
        return give(literals).add("clause", 0);
    }

    Script solve(int... assumed) {
        return give(assumed).add("solve", 0);
    }

    Script value(int v) {
        return add("value", v);
    }

    Script count(int what) {
        return add("count", what);
    }

    Script add(String name, int with) {
        steps.add(new Step(name, with));
        return this;
    }

    /** Makes all calls of both, and looks at every answer of the program. */
    void play(Due due, String what) {
        ClauseSearch x = new ClauseSearch();
        PlainModel model = new PlainModel();
        for (int i = 0; i < steps.size(); i++) {
            Step step = steps.get(i);
            due.is(what + ", call " + (i + 1) + ": " + step, step.on(model), () -> step.on(x));
        }
    }
}
