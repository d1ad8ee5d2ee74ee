/** Each promise of the document with ordinary inputs; the edges are in TermsTest and BoundaryTest. */
public final class PromiseTest {
    private static final Due DUE = new Due();

    public static void main(String[] args) {
        newObject();
        variables();
        give();
        clause();
        solve();
        solveWithAssumptions();
        solveForgetsAssumptions();
        value();
        valueIsLeast();
        valueAlongAChain();
        count();
        DUE.end();
    }

    private static void newObject() {
        ClauseSearch x = new ClauseSearch();
        DUE.is("1: counts of a new object", "0 0 0 0 0 0", () -> Calls.counts(x));
        DUE.is("1: solve() of nothing", true, x::solve);
        ClauseSearch y = Calls.withVariables(3);
        DUE.is("1: objects share nothing", "0 0 0 1 0 0", () -> Calls.counts(x));
        DUE.is("1: the other one", "3 0 0 0 0 0", () -> Calls.counts(y));
    }

    private static void variables() {
        ClauseSearch x = new ClauseSearch();
        DUE.is("2: variables(5)", 5, () -> x.variables(5));
        DUE.is("2: variables(7)", 12, () -> x.variables(7));
        DUE.is("2: give(-12)", 1, () -> x.give(-12));
        DUE.argument("2: give(13)", () -> x.give(13));
    }

    private static void give() {
        ClauseSearch x = Calls.withVariables(3);
        DUE.is("3: give(2)", 1, () -> x.give(2));
        DUE.is("3: give(-3)", 2, () -> x.give(-3));
        DUE.is("3: give(2) again", 3, () -> x.give(2));
        DUE.argument("3: give(4)", () -> x.give(4));
        DUE.is("3: count(2)", 3, () -> x.count(2));
    }

    private static void clause() {
        ClauseSearch x = Calls.withVariables(3);
        Calls.give(x, 1, 2);
        DUE.is("4: the first", 1, x::clause);
        DUE.is("4: the row is empty then", 0, () -> x.count(2));
        DUE.state("4: no clause of it", x::clause);
        DUE.is("4: the second", 2, () -> Calls.addClause(x, -2, 3));
        DUE.is("4: both hold", "011", () -> Calls.leastWith(x));
    }

    private static void solve() {
        ClauseSearch x = Calls.withVariables(3);
        DUE.is("5: no clause", true, x::solve);
        Calls.addClause(x, 1, 2);
        Calls.addClause(x, 1, -2);
        DUE.is("5: forces 1", "100", () -> Calls.leastWith(x));
        Calls.addClause(x, -1, 3);
        DUE.is("5: forces 3", "101", () -> Calls.leastWith(x));
        Calls.addClause(x, -1, -3);
        DUE.is("5: nothing is left", "no", () -> Calls.leastWith(x));
    }

    private static void solveWithAssumptions() {
        ClauseSearch x = Calls.withVariables(4);
        Calls.addClause(x, 1, 2);
        Calls.addClause(x, -1, 3);
        Calls.addClause(x, -2, -3);
        DUE.is("5: 1 assumed", "1010", () -> Calls.leastWith(x, 1));
        DUE.is("5: 1 and 2 assumed", "no", () -> Calls.leastWith(x, 1, 2));
        DUE.is("5: a literal and its denial", "no", () -> Calls.leastWith(x, 4, -4));
        DUE.is("5: the denial first", "no", () -> Calls.leastWith(x, -4, 1, 4));
        DUE.is("5: the same thrice", "0101", () -> Calls.leastWith(x, 4, 4, 4));
        DUE.is("5: a denial assumed", "1010", () -> Calls.leastWith(x, -2));
    }

    private static void solveForgetsAssumptions() {
        ClauseSearch x = Calls.withVariables(2);
        Calls.addClause(x, 1, 2);
        DUE.is("5: both denied", "no", () -> Calls.leastWith(x, -1, -2));
        DUE.is("5: what was assumed is gone", "01", () -> Calls.leastWith(x));
        DUE.is("5: the other way", "10", () -> Calls.leastWith(x, -2));
        DUE.is("5: clauses stay", 1, () -> x.count(1));
        Calls.addClause(x, -2);
        DUE.is("5: a clause behind it holds", "10", () -> Calls.leastWith(x));
    }

    private static void value() {
        ClauseSearch x = Calls.withVariables(2);
        Calls.addClause(x, 1);
        DUE.state("6: no solve", () -> x.value(1));
        x.solve();
        DUE.is("6: behind a yes", "10", () -> Calls.way(x));
        DUE.argument("6: no such variable", () -> x.value(3));
        DUE.is("6: a no", "no", () -> Calls.leastWith(x, -1));
        DUE.state("6: behind a no", () -> x.value(1));
        x.solve();
        x.variables(1);
        DUE.state("6: a variable came", () -> x.value(1));
        DUE.is("6: sought again", "100", () -> Calls.leastWith(x));
        Calls.addClause(x, -2);
        DUE.state("6: a clause came", () -> x.value(1));
    }

    private static void valueIsLeast() {
        ClauseSearch x = Calls.withVariables(4);
        Calls.addClause(x, 1, 2, 3, 4);
        DUE.is("6: the last alone", "0001", () -> Calls.leastWith(x));
        Calls.addClause(x, -4, 1);
        DUE.is("6: 3 before 1", "0010", () -> Calls.leastWith(x));
        Calls.addClause(x, -3, 4);
        DUE.is("6: then 2", "0100", () -> Calls.leastWith(x));
        Calls.addClause(x, -2, 3);
        DUE.is("6: then 1", "1000", () -> Calls.leastWith(x));
        DUE.is("6: with 4 assumed", "1001", () -> Calls.leastWith(x, 4));
        DUE.is("6: with 2 assumed", "1111", () -> Calls.leastWith(x, 2));
    }

    private static void valueAlongAChain() {
        ClauseSearch x = Calls.withVariables(400);
        Calls.addClause(x, 1, 2);
        for (int v = 2; v < 120; v++) {
            Calls.addClause(x, -v, v + 1);
        }
        DUE.is("6: a chain", true, x::solve);
        DUE.is("6: its begin", false, () -> x.value(1));
        DUE.is("6: its end", true, () -> x.value(120));
        DUE.is("6: behind it", false, () -> x.value(121));
        DUE.is("6: the end denied", true, () -> Calls.solveWith(x, -120, 400));
        DUE.is("6: turns the begin", true, () -> x.value(1));
        DUE.is("6: what is assumed", true, () -> x.value(400));
    }

    private static void count() {
        ClauseSearch x = Calls.withVariables(5);
        Calls.addClause(x, 1, 2);
        Calls.addClause(x, -1);
        Calls.give(x, 3, 4, 5);
        DUE.is("7: before a solve", "5 2 3 0 0 0", () -> Calls.counts(x));
        x.solve();
        DUE.is("7: behind a yes", "5 2 0 1 0 0", () -> Calls.counts(x));
        x.give(1);
        DUE.is("7: given since", "5 2 1 1 0 0", () -> Calls.counts(x));
        x.solve();
        DUE.is("7: behind a no", "5 2 0 0 0 0", () -> Calls.counts(x));
        x.solve();
        x.variables(2);
        DUE.is("7: a variable came", "7 2 0 0 0 0", () -> Calls.counts(x));
        x.solve();
        Calls.addClause(x, 7);
        DUE.is("7: a clause came", "7 3 0 0 0 0", () -> Calls.counts(x));
        DUE.argument("7: count(6)", () -> x.count(6));
    }
}
