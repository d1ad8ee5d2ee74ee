import java.util.Arrays;

/** The boundary cases that "What it is" and "Terms" name, each sentence by itself. */
public final class TermsTest {
    private static final Due DUE = new Due();

    public static void main(String[] args) {
        mostCalls();
        mostVariables();
        literalAndDenial();
        lengthOfClause();
        placeInClause();
        literalTwice();
        literalBesideDenial();
        oneMustBeTrue();
        rowIsEmptyAtFirst();
        clausesStay();
        wayOfEachVariable();
        goodWayAndClauses();
        goodWayAndAssumed();
        orderOfWhatIsThrown();
        DUE.end();
    }

    private static void mostCalls() {
        DUE.sentence("An object is used for at most 512 calls after it has been made");
        Script shortest = new Script().variables(400);
        for (int v = 1; v <= 254; v++) {
            shortest.clause(v);
        }
        lastOf512("shortest clauses", shortest.solve().value(254).value(255));

        Script longest = new Script().variables(400);
        for (int i = 0; i < 23; i++) {
            longest.clause(Calls.range(16 * i + 1, 16 * i + 20));
        }
        longest.clause(-20).clause(-372).solve();
        for (int v = 18; v <= 36; v++) {
            longest.value(v);
        }
        lastOf512("longest clauses", longest.count(4).count(5).count(1).value(371));

        Script solves = new Script().variables(3).clause(1, 2, 3).clause(-3).clause(-1, 3);
        for (int i = 0; i < 83; i++) {
            solves.solve().value(2).solve(-2).solve(2);
        }
        lastOf512("solves", solves.count(3).count(2).solve(1));
    }

    private static void lastOf512(String what, Script script) {
        DUE.is(what + ": how many calls", 512, script.steps::size);
        script.play(DUE, what);
    }

    private static void mostVariables() {
        DUE.sentence("VARIABLES 1, 2, .. at most 400.");
        ClauseSearch one = Calls.withVariables(1);
        DUE.is("the first", 1, () -> Calls.addClause(one, 1));
        DUE.argument("none behind it", () -> one.give(2));
        DUE.is("its truth", "1", () -> Calls.leastWith(one));
        ClauseSearch most = Calls.withVariables(400);
        DUE.is("the last of 400", 1, () -> Calls.addClause(most, 400));
        DUE.argument("none behind 400", () -> most.give(401));
        DUE.argument("nor its denial", () -> most.give(-401));
        DUE.bounds("not 401", () -> most.variables(1));
        DUE.is("their truths", Calls.onlyTrue(400, 400), () -> Calls.leastWith(most));
        DUE.is("the denial of the last", "no", () -> Calls.leastWith(most, -400));
    }

    private static void literalAndDenial() {
        DUE.sentence("A LITERAL is v, VARIABLE v, or -v, its denial.");
        for (int v : new int[] {1, 2, 399, 400}) {
            ClauseSearch x = Calls.withVariables(400);
            DUE.is(v + " assumed", true, () -> Calls.solveWith(x, v) && x.value(v));
            DUE.is(-v + " assumed", true, () -> Calls.solveWith(x, -v) && !x.value(v));
            Calls.addClause(x, v);
            DUE.is(v + " is a clause", Calls.onlyTrue(400, v), () -> Calls.leastWith(x));
            DUE.is(v + " is a clause, " + -v + " assumed", false, () -> Calls.solveWith(x, -v));
            Calls.addClause(x, -v);
            DUE.is("both are clauses", false, x::solve);
        }
        DUE.argument("0 is none", () -> Calls.withVariables(400).give(0));
    }

    private static void lengthOfClause() {
        DUE.sentence("A CLAUSE is a row of LITERALS, 1 .. 20");
        for (int n = 1; n <= 20; n++) {
            int length = n;
            ClauseSearch x = Calls.withVariables(20);
            DUE.is("a clause of " + n, 1, () -> Calls.addClause(x, Calls.range(1, length)));
            DUE.is(n + ": the last holds", Calls.onlyTrue(20, n), () -> Calls.leastWith(x));
            DUE.is(n + ": none holds", "no", () -> Calls.leastWith(x, Calls.range(-1, -length)));
        }
        ClauseSearch x = Calls.withVariables(21);
        DUE.state("a clause of 0", x::clause);
        DUE.bounds("a clause of 21", () -> Calls.addClause(x, Calls.range(1, 21)));
        DUE.is("a clause of the 20 before it", 1, x::clause);
        DUE.is("the 21st did not come to it", "no", () -> Calls.leastWith(x, Calls.range(-1, -20)));
    }

    private static void placeInClause() {
        DUE.sentence("one of which must be true.");
        for (int v = 1; v <= 20; v++) {
            ClauseSearch x = Calls.withVariables(20);
            Calls.addClause(x, Calls.range(1, 20));
            int[] others = Calls.range(-1, -20);
            others[v - 1] = others[v % 20];
            DUE.is("place " + v, Calls.onlyTrue(20, v), () -> Calls.leastWith(x, others));
        }
    }

    private static void literalTwice() {
        DUE.sentence("(one may stand twice, and beside its denial)");
        for (int n = 1; n <= 20; n++) {
            int times = n;
            ClauseSearch x = Calls.withVariables(3);
            DUE.is("2, " + n + " times", 1, () -> Calls.addClause(x, Calls.times(times, 2)));
            DUE.is("it must be true", "010", () -> Calls.leastWith(x));
            DUE.is("its denial cannot", "no", () -> Calls.leastWith(x, -2));
            DUE.is("-3, " + n + " times", 2, () -> Calls.addClause(x, Calls.times(times, -3)));
            DUE.is("it must be false", "no", () -> Calls.leastWith(x, 3));
        }
        ClauseSearch y = Calls.withVariables(3);
        Calls.addClause(y, 1, 1, 3, 3, 1, 3);
        DUE.is("two, each thrice", "001", () -> Calls.leastWith(y));
        DUE.is("one of them denied", "100", () -> Calls.leastWith(y, -3));
        DUE.is("both denied", "no", () -> Calls.leastWith(y, -3, -1));
    }

    private static void literalBesideDenial() {
        DUE.sentence("(one may stand twice, and beside its denial)");
        int[][] shapes = {{1, -1}, {-1, 1}, {1, 2, -1}, {2, 1, -1}, {-1, 2, 2, 1}, {3, -1, 1, -3}};
        for (int[] shape : shapes) {
            ClauseSearch x = Calls.withVariables(3);
            DUE.is(Arrays.toString(shape), 1, () -> Calls.addClause(x, shape));
            DUE.is("asks nothing", "000", () -> Calls.leastWith(x));
            DUE.is("nor of 1", "100", () -> Calls.leastWith(x, 1, -2, -3));
            Calls.addClause(x, 2);
            DUE.is("and leaves other clauses", "010", () -> Calls.leastWith(x));
        }
        int[] twenty = Calls.times(20, 1);
        twenty[19] = -1;
        ClauseSearch y = Calls.withVariables(1);
        Calls.addClause(y, twenty);
        DUE.is("1, 19 times, and -1", "0", () -> Calls.leastWith(y));
    }

    private static void oneMustBeTrue() {
        DUE.sentence("one of which must be true.");
        ClauseSearch x = Calls.withVariables(3);
        Calls.addClause(x, 1, -2, 3);
        DUE.is("one is by itself", "000", () -> Calls.leastWith(x));
        DUE.is("two are false", "011", () -> Calls.leastWith(x, 2));
        DUE.is("all may be true", "101", () -> Calls.leastWith(x, 1, -2, 3));
        DUE.is("all are false", "no", () -> Calls.leastWith(x, -1, 2, -3));
    }

    private static void rowIsEmptyAtFirst() {
        DUE.sentence("THE ROW of LITERALS that are given is empty at first.");
        DUE.is("count(2)", 0, () -> new ClauseSearch().count(2));
        DUE.state("no clause", () -> new ClauseSearch().clause());
        DUE.state("nor behind variables", () -> Calls.withVariables(400).clause());
        DUE.is("the first literal", 1, () -> Calls.withVariables(1).give(1));
    }

    private static void clausesStay() {
        DUE.sentence("CLAUSES stay for good (at most 4000).");
        ClauseSearch x = Calls.withVariables(2);
        Calls.addClause(x, 1, 2);
        DUE.is("a yes", "01", () -> Calls.leastWith(x));
        DUE.is("behind a yes", "01", () -> Calls.leastWith(x));
        DUE.is("a no", "no", () -> Calls.leastWith(x, -1, -2));
        DUE.is("behind a no", "01", () -> Calls.leastWith(x));
        x.variables(2);
        DUE.is("behind variables", "0100", () -> Calls.leastWith(x));
        Calls.addClause(x, 4);
        DUE.is("behind a clause", "0101", () -> Calls.leastWith(x));
        Calls.addClause(x, -4);
        DUE.is("none is good any more", "no", () -> Calls.leastWith(x));
        Calls.addClause(x, 1);
        DUE.is("and never again", "no", () -> Calls.leastWith(x));
        DUE.is("how many there are", 4, () -> x.count(1));
    }

    private static void wayOfEachVariable() {
        DUE.sentence("A WAY gives each VARIABLE a truth;");
        DUE.is("400 that no clause names", "0".repeat(400), () -> Calls.leastWith(Calls.withVariables(400)));
        DUE.is("none at all", "", () -> Calls.leastWith(new ClauseSearch()));
        ClauseSearch x = Calls.withVariables(2);
        Calls.addClause(x, 2);
        x.solve();
        x.variables(1);
        DUE.is("one that came behind a solve", "010", () -> Calls.leastWith(x));
        DUE.is("and is assumed", "011", () -> Calls.leastWith(x, 3));
    }

    private static void goodWayAndClauses() {
        DUE.sentence("it is good if it makes all CLAUSES true, and all LITERALS that are assumed.");
        DUE.is("no clause", true, () -> Calls.withVariables(1).solve());
        for (int wrong = 1; wrong <= 60; wrong++) {
            ClauseSearch x = Calls.withVariables(60);
            for (int v = 1; v <= 60; v++) {
                Calls.addClause(x, v == wrong ? v : -v);
            }
            int other = wrong;
            DUE.is("clause " + wrong + " of 60", Calls.onlyTrue(60, wrong), () -> Calls.leastWith(x));
            DUE.is("clause " + wrong + " of 60, against it", "no", () -> Calls.leastWith(x, -other));
        }
    }

    private static void goodWayAndAssumed() {
        DUE.sentence("it is good if it makes all CLAUSES true, and all LITERALS that are assumed.");
        for (int v = 1; v <= 20; v++) {
            ClauseSearch x = Calls.withVariables(20);
            DUE.is("20 assumed", "1".repeat(20), () -> Calls.leastWith(x, Calls.range(1, 20)));
            Calls.addClause(x, Calls.range(-1, -20));
            DUE.is("together against a clause", "no", () -> Calls.leastWith(x, Calls.range(1, 20)));
            int[] assumed = Calls.range(1, 20);
            assumed[v - 1] = -v;
            int[] which = Arrays.stream(assumed).filter(l -> l > 0).toArray();
            DUE.is("the denial at place " + v, Calls.onlyTrue(20, which), () -> Calls.leastWith(x, assumed));
        }
    }

    private static void orderOfWhatIsThrown() {
        DUE.sentence("What is thrown, in this order: IllegalArgumentException: a number out of range; "
                + "then as the call says.");
        ClauseSearch x = Calls.withVariables(400);
        DUE.argument("variables: 0, though there are 400", () -> x.variables(0));
        DUE.argument("variables: 401, which would be too many too", () -> x.variables(401));
        DUE.bounds("variables: 400, which would be too many", () -> x.variables(400));
        DUE.argument("value: 0, though nothing was sought", () -> x.value(0));
        DUE.argument("value: 401, though nothing was sought", () -> x.value(401));
        DUE.state("value: 400, nothing was sought", () -> x.value(400));
        Calls.give(x, Calls.range(1, 20));
        DUE.argument("give: 0, though the row has 20", () -> x.give(0));
        DUE.argument("give: 401, though the row has 20", () -> x.give(401));
        DUE.argument("give: -401, though the row has 20", () -> x.give(-401));
        DUE.bounds("give: -400, the row has 20", () -> x.give(-400));
    }
}
