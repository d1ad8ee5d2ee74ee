/** Each promise of the document, with its edges and wrong inputs. */
public final class PromiseTest {
    private static final Due DUE = new Due();

    public static void main(String[] args) {
        newObject();
        variables();
        give();
        clause();
        clauseOfAnyShape();
        mostClauses();
        solve();
        solveWithAssumptions();
        solveKeepsClausesAndForgetsAssumptions();
        valueCanBeAsked();
        valueIsLeast();
        valueOfAllVariables();
        count();
        DUE.end();
    }

    private static ClauseSearch withVariables(int n) {
        ClauseSearch x = new ClauseSearch();
        x.variables(n);
        return x;
    }

    private static void row(ClauseSearch x, int... literals) {
        for (int l : literals) {
            x.give(l);
        }
    }

    private static void add(ClauseSearch x, int... literals) {
        row(x, literals);
        x.clause();
    }

    private static boolean solveWith(ClauseSearch x, int... literals) {
        row(x, literals);
        return x.solve();
    }

    /** The truths of all variables, as a text of 0 and 1. */
    private static String way(ClauseSearch x) {
        StringBuilder text = new StringBuilder();
        for (int v = 1; v <= x.count(0); v++) {
            text.append(x.value(v) ? '1' : '0');
        }
        return text.toString();
    }

    private static String counts(ClauseSearch x) {
        StringBuilder text = new StringBuilder();
        for (int what = 0; what <= 5; what++) {
            text.append(what == 0 ? "" : " ").append(x.count(what));
        }
        return text.toString();
    }

    private static void newObject() {
        ClauseSearch x = new ClauseSearch();
        DUE.is("1: counts of a new object", "0 0 0 0 0 0", () -> counts(x));
        DUE.argument("1: value(1), no variable", () -> x.value(1));
        DUE.argument("1: give(1), no variable", () -> x.give(1));
        DUE.state("1: clause(), row empty", x::clause);
        DUE.state("1: value(1), nothing sought", () -> withVariables(1).value(1));
        DUE.is("1: solve() of nothing", true, x::solve);
        DUE.is("1: counts behind it", "0 0 0 1 0 0", () -> counts(x));
        ClauseSearch y = withVariables(3);
        DUE.is("1: objects share nothing", "0 0 0 1 0 0", () -> counts(x));
        DUE.is("1: the other one", "3 0 0 0 0 0", () -> counts(y));
    }

    private static void variables() {
        ClauseSearch x = new ClauseSearch();
        for (int n : new int[] {0, -1, 401, Integer.MIN_VALUE, Integer.MAX_VALUE}) {
            DUE.argument("2: variables(" + n + ")", () -> x.variables(n));
        }
        DUE.is("2: nothing changed", "0 0 0 0 0 0", () -> counts(x));
        DUE.is("2: variables(1)", 1, () -> x.variables(1));
        DUE.bounds("2: 1 + 400", () -> x.variables(400));
        DUE.is("2: variables(398)", 399, () -> x.variables(398));
        DUE.bounds("2: 399 + 2", () -> x.variables(2));
        DUE.is("2: 399 + 1", 400, () -> x.variables(1));
        DUE.bounds("2: 400 + 1", () -> x.variables(1));
        DUE.argument("2: 401 is out of range first", () -> x.variables(401));
        DUE.is("2: give(-400)", 1, () -> x.give(-400));
        DUE.is("2: all at once", 400, () -> new ClauseSearch().variables(400));
    }

    private static void give() {
        ClauseSearch x = withVariables(3);
        for (int l : new int[] {0, 4, -4, Integer.MIN_VALUE, Integer.MAX_VALUE}) {
            DUE.argument("3: give(" + l + ")", () -> x.give(l));
        }
        DUE.is("3: nothing given", 0, () -> x.count(2));
        int[] some = {1, -1, 1, 3, -3};
        for (int i = 1; i <= 20; i++) {
            int l = some[i % some.length];
            DUE.is("3: give(" + l + ")", i, () -> x.give(l));
        }
        DUE.bounds("3: one more than 20", () -> x.give(1));
        DUE.argument("3: out of range first", () -> x.give(4));
        DUE.is("3: still 20", 20, () -> x.count(2));
        x.variables(1);
        DUE.is("3: a variable leaves the row", 20, () -> x.count(2));
        DUE.is("3: 20 make a clause", 1, x::clause);
        DUE.is("3: room again", 1, () -> x.give(-4));
    }

    private static void clause() {
        ClauseSearch x = withVariables(2);
        DUE.state("4: the row is empty", x::clause);
        x.give(1);
        DUE.is("4: the first", 1, x::clause);
        DUE.is("4: the row is empty then", 0, () -> x.count(2));
        DUE.state("4: empty again", x::clause);
        add(x, 1);
        DUE.is("4: the same clause counts again", 2, () -> x.count(1));
        x.solve();
        DUE.state("4: solve empties the row", x::clause);
        DUE.is("4: a clause that throws leaves the way", true, () -> x.value(1));
        ClauseSearch y = withVariables(400);
        for (int i = 0; i < 250; i++) {
            add(y, i % 400 + 1);
        }
        DUE.is("4: as many as 512 calls allow", 250, () -> y.count(1));
        DUE.is("4: all of them hold", true, y::solve);
        DUE.is("4: the last of them", true, () -> y.value(250));
        DUE.is("4: none behind it", false, () -> y.value(251));
    }

    private static void clauseOfAnyShape() {
        ClauseSearch x = withVariables(3);
        add(x, 2, 2);
        DUE.is("4: a literal twice is one", "010", () -> x.solve() ? way(x) : "no");
        add(x, 1, -1);
        add(x, -3, 1, 3, 3, -3);
        DUE.is("4: beside its denial it asks nothing", "010", () -> x.solve() ? way(x) : "no");
        add(x, 3, 3, 3, 1, 1);
        DUE.is("4: a pair of repeated ones", "011", () -> x.solve() ? way(x) : "no");
        add(x, -2, -2);
        DUE.is("4: the denial twice", false, x::solve);
        ClauseSearch y = withVariables(20);
        for (int v = 1; v < 20; v++) {
            add(y, -v);
        }
        for (int v = 1; v <= 20; v++) {
            y.give(v);
        }
        y.clause();
        DUE.is("4: 20 literals, the last holds", "00000000000000000001", () -> y.solve() ? way(y) : "no");
        DUE.is("4: and none else can", false, () -> solveWith(y, -20));
    }

    /** No 512 calls come this far; the limit is kept all the same. */
    private static void mostClauses() {
        ClauseSearch x = withVariables(400);
        for (int i = 0; i < 4000; i++) {
            for (int k = 0; k < 20; k++) {
                x.give((i * 7 + k * 19) % 400 + 1);
            }
            x.clause();
        }
        DUE.state("4: 4000 clauses, the row is empty", x::clause);
        x.give(-1);
        DUE.bounds("4: 4000 clauses", x::clause);
        DUE.is("4: the row stays", 1, () -> x.count(2));
        DUE.is("4: solve with 4000", true, x::solve);
        DUE.is("4: counts", "400 4000 0 1 0 0", () -> counts(x));
    }

    private static void solve() {
        ClauseSearch x = withVariables(3);
        DUE.is("5: no clause", true, x::solve);
        add(x, 1, 2);
        add(x, 1, -2);
        DUE.is("5: forces 1", "100", () -> x.solve() ? way(x) : "no");
        add(x, -1, 3);
        DUE.is("5: forces 3", "101", () -> x.solve() ? way(x) : "no");
        add(x, -1, -3);
        DUE.is("5: nothing is left", false, x::solve);
        DUE.is("5: the row is empty", 0, () -> x.count(2));
        x.variables(1);
        DUE.is("5: no for good", false, () -> solveWith(x, 4));
        DUE.is("5: the row is empty behind a no", 0, () -> x.count(2));
    }

    private static void solveWithAssumptions() {
        ClauseSearch x = withVariables(4);
        add(x, 1, 2);
        add(x, -1, 3);
        add(x, -2, -3);
        DUE.is("5: 1 assumed", "1010", () -> solveWith(x, 1) ? way(x) : "no");
        DUE.is("5: 1 and 2 assumed", false, () -> solveWith(x, 1, 2));
        DUE.is("5: a literal and its denial", false, () -> solveWith(x, 4, -4));
        DUE.is("5: the denial first", false, () -> solveWith(x, -4, 1, 4));
        DUE.is("5: the same twice", "0101", () -> solveWith(x, 4, 4, 4) ? way(x) : "no");
        DUE.is("5: a denial assumed", "1010", () -> solveWith(x, -2) ? way(x) : "no");
        DUE.is("5: 20 assumed", "0101", () -> solveWith(x, 4, 4, 4, 4, 4, 4, 4, 4, 4, 4,
                4, 4, 4, 4, 4, 4, 4, 4, -1, 2) ? way(x) : "no");
        DUE.is("5: against a single clause", false, () -> {
            ClauseSearch y = withVariables(1);
            add(y, -1);
            return solveWith(y, 1);
        });
    }

    private static void solveKeepsClausesAndForgetsAssumptions() {
        ClauseSearch x = withVariables(2);
        add(x, 1, 2);
        DUE.is("5: both denied", false, () -> solveWith(x, -1, -2));
        DUE.is("5: what was assumed is gone", "01", () -> x.solve() ? way(x) : "no");
        DUE.is("5: the other way", "10", () -> solveWith(x, -2) ? way(x) : "no");
        DUE.is("5: clauses stay", 1, () -> x.count(1));
        add(x, -2);
        DUE.is("5: a clause behind it holds", "10", () -> x.solve() ? way(x) : "no");
    }

    private static void valueCanBeAsked() {
        ClauseSearch x = withVariables(2);
        add(x, 1);
        DUE.state("6: no solve", () -> x.value(1));
        DUE.argument("6: the number is looked at first", () -> x.value(3));
        x.solve();
        for (int v : new int[] {0, -1, 3, Integer.MIN_VALUE, Integer.MAX_VALUE}) {
            DUE.argument("6: value(" + v + ")", () -> x.value(v));
        }
        x.give(-1);
        DUE.is("6: what is given does not matter", true, () -> x.value(1));
        DUE.argument("6: nor what was refused", () -> x.give(3));
        DUE.argument("6: nor a call refused", () -> x.variables(0));
        DUE.bounds("6: nor variables refused", () -> x.variables(399));
        DUE.is("6: still asked", "10", () -> way(x));
        DUE.is("6: a no", false, x::solve);
        DUE.state("6: behind a no", () -> x.value(1));
        DUE.argument("6: the number first, behind a no", () -> x.value(0));
        x.solve();
        x.variables(1);
        DUE.state("6: a variable came", () -> x.value(1));
        x.solve();
        DUE.is("6: sought again", "100", () -> way(x));
        add(x, -2);
        DUE.state("6: a clause came", () -> x.value(1));
        add(x, -1);
        x.solve();
        DUE.state("6: no for good", () -> x.value(1));
    }

    private static void valueIsLeast() {
        ClauseSearch x = withVariables(4);
        add(x, 1, 2, 3, 4);
        DUE.is("6: the last alone", "0001", () -> x.solve() ? way(x) : "no");
        add(x, -4, 1);
        DUE.is("6: 3 before 1", "0010", () -> x.solve() ? way(x) : "no");
        add(x, -3, 4);
        DUE.is("6: then 2", "0100", () -> x.solve() ? way(x) : "no");
        add(x, -2, 3);
        DUE.is("6: then 1", "1000", () -> x.solve() ? way(x) : "no");
        DUE.is("6: with 4 assumed", "1001", () -> solveWith(x, 4) ? way(x) : "no");
        DUE.is("6: with 2 assumed", "1111", () -> solveWith(x, 2) ? way(x) : "no");
        ClauseSearch y = withVariables(3);
        add(y, 1, 2);
        add(y, 1, 3);
        DUE.is("6: 1 false is worth 2 and 3 true", "011", () -> y.solve() ? way(y) : "no");
        DUE.is("6: unless one is denied", "100", () -> solveWith(y, -3) ? way(y) : "no");
    }

    private static void valueOfAllVariables() {
        ClauseSearch x = withVariables(400);
        add(x, 1, 2);
        for (int v = 2; v < 120; v++) {
            add(x, -v, v + 1);
        }
        DUE.is("6: a chain", true, x::solve);
        DUE.is("6: its begin", false, () -> x.value(1));
        DUE.is("6: its end", true, () -> x.value(120));
        DUE.is("6: behind it", false, () -> x.value(121));
        DUE.is("6: the last variable", false, () -> x.value(400));
        DUE.is("6: the end denied", true, () -> solveWith(x, -120, 400));
        DUE.is("6: turns the begin", true, () -> x.value(1));
        DUE.is("6: what is assumed", true, () -> x.value(400));
    }

    private static void count() {
        ClauseSearch x = withVariables(5);
        for (int what : new int[] {-1, 6, Integer.MIN_VALUE, Integer.MAX_VALUE}) {
            DUE.argument("7: count(" + what + ")", () -> x.count(what));
        }
        add(x, 1, 2);
        add(x, -1);
        row(x, 3, 4, 5);
        DUE.is("7: before a solve", "5 2 3 0 0 0", () -> counts(x));
        x.solve();
        DUE.is("7: behind a yes", "5 2 0 1 0 0", () -> counts(x));
        x.give(1);
        DUE.is("7: given since", "5 2 1 1 0 0", () -> counts(x));
        x.solve();
        DUE.is("7: behind a no", "5 2 0 0 0 0", () -> counts(x));
        x.solve();
        x.variables(2);
        DUE.is("7: a variable came", "7 2 0 0 0 0", () -> counts(x));
        x.solve();
        x.give(7);
        DUE.bounds("7: a call refused", () -> x.variables(394));
        DUE.is("7: changes nothing", "7 2 1 1 0 0", () -> counts(x));
        x.clause();
        DUE.is("7: a clause came", "7 3 0 0 0 0", () -> counts(x));
    }
}
