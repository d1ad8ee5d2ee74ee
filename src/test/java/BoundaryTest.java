/** The boundary cases that the promises name, each sentence by itself, in the document's order. */
public final class BoundaryTest {
    private static final Due DUE = new Due();
    private static final int[] FARTHEST = {Integer.MIN_VALUE, Integer.MIN_VALUE + 1, Integer.MAX_VALUE};

    public static void main(String[] args) {
        newObject();
        howManyVariablesAtOnce();
        moreThan400Variables();
        howManyVariablesThereAre();
        literalOfAVariableThatThereIs();
        literalThatIsThereAlready();
        rowThatHas20();
        howManyLiterals();
        clauseOfAnEmptyRow();
        clauseEmptiesTheRow();
        howManyClauses();
        solveWithNothing();
        solveWithAssumed();
        solveEmptiesTheRow();
        valueBehindANo();
        valueBehindNoSolve();
        valueBehindAVariable();
        valueBehindAClause();
        valueOfNoVariable();
        valueBehindGiven();
        valueWithWhatWasAssumed();
        valueIsLeast();
        countOfEach();
        countWhetherValueCanBeAsked();
        countOfFaults();
        countOfNothing();
        DUE.end();
    }

    private static void newObject() {
        DUE.sentence("No VARIABLES, no CLAUSES, THE ROW is empty, nothing was sought.");
        ClauseSearch x = new ClauseSearch();
        DUE.is("counts", "0 0 0 0 0 0", () -> Calls.counts(x));
        DUE.argument("no variable to give", () -> x.give(1));
        DUE.argument("nor its denial", () -> x.give(-1));
        DUE.argument("no variable to ask for", () -> x.value(1));
        DUE.state("no row to make a clause", x::clause);
        DUE.state("nothing sought", () -> Calls.withVariables(1).value(1));
        ClauseSearch used = Calls.withVariables(2);
        Calls.addClause(used, 1);
        used.solve();
        used.give(2);
        DUE.is("behind another object", "0 0 0 0 0 0", () -> Calls.counts(new ClauseSearch()));
        DUE.is("the other object", "2 1 1 1 0 0", () -> Calls.counts(used));
    }

    private static void howManyVariablesAtOnce() {
        DUE.sentence("n 1 .. 400");
        ClauseSearch x = new ClauseSearch();
        for (int n : new int[] {0, -1, -400, 401, 402, 800}) {
            DUE.argument("variables(" + n + ")", () -> x.variables(n));
        }
        for (int n : FARTHEST) {
            DUE.argument("variables(" + n + ")", () -> x.variables(n));
        }
        for (int n : new int[] {1, 2, 399, 400}) {
            DUE.is("variables(" + n + ")", n, () -> new ClauseSearch().variables(n));
        }
        ClauseSearch full = Calls.withVariables(400);
        for (int n : FARTHEST) {
            DUE.argument("400 and variables(" + n + ")", () -> full.variables(n));
        }
    }

    private static void moreThan400Variables() {
        DUE.sentence("there would be more than 400: IndexOutOfBoundsException.");
        for (int n = 1; n < 400; n++) {
            int present = n;
            ClauseSearch x = Calls.withVariables(present);
            DUE.bounds(present + " and 400", () -> x.variables(400));
            DUE.bounds(present + " and one too many", () -> x.variables(401 - present));
            DUE.is(present + " and as many as can be", 400, () -> x.variables(400 - present));
            DUE.bounds("400 and 1", () -> x.variables(1));
        }
    }

    private static void howManyVariablesThereAre() {
        DUE.sentence("Answers how many there are.");
        ClauseSearch x = new ClauseSearch();
        for (int v = 1; v <= 400; v++) {
            DUE.is("one more", v, () -> x.variables(1));
        }
        DUE.is("count(0)", 400, () -> x.count(0));
        DUE.sentence("n more VARIABLES");
        ClauseSearch y = Calls.withVariables(3);
        DUE.is("3 and 4", 7, () -> y.variables(4));
        DUE.is("the last of them", 1, () -> y.give(7));
        DUE.argument("none behind it", () -> y.give(8));
    }

    private static void literalOfAVariableThatThereIs() {
        DUE.sentence("l a LITERAL of a VARIABLE that there is (else a number out of range).");
        for (int n = 0; n <= 400; n++) {
            int present = n;
            ClauseSearch x = present == 0 ? new ClauseSearch() : Calls.withVariables(present);
            DUE.argument(present + ": give(0)", () -> x.give(0));
            DUE.argument(present + ": the next one", () -> x.give(present + 1));
            DUE.argument(present + ": its denial", () -> x.give(-present - 1));
            for (int l : FARTHEST) {
                DUE.argument(present + ": give(" + l + ")", () -> x.give(l));
            }
            if (present > 0) {
                DUE.is(present + ": the last one", 1, () -> x.give(present));
                DUE.is(present + ": its denial", 2, () -> x.give(-present));
                DUE.is(present + ": the first one", 3, () -> x.give(1));
                DUE.is(present + ": its denial", 4, () -> x.give(-1));
            }
        }
        ClauseSearch x = Calls.withVariables(1);
        DUE.argument("2, before it comes", () -> x.give(2));
        x.variables(1);
        DUE.is("2, behind it", 1, () -> x.give(2));
    }

    private static void literalThatIsThereAlready() {
        DUE.sentence("It comes to THE ROW (it may be there already, its denial too);");
        ClauseSearch x = Calls.withVariables(1);
        for (int i = 1; i <= 20; i++) {
            int l = i % 3 == 0 ? -1 : 1;
            DUE.is("literal " + i, i, () -> x.give(l));
        }
        DUE.is("they cannot be true at once", "no", () -> Calls.leastWith(x));
        ClauseSearch y = Calls.withVariables(1);
        DUE.is("the same one 20 times", "1", () -> Calls.leastWith(y, Calls.times(20, 1)));
    }

    private static void rowThatHas20() {
        DUE.sentence("that has 20: IndexOutOfBoundsException.");
        ClauseSearch x = Calls.withVariables(22);
        Calls.give(x, Calls.range(2, 20));
        DUE.is("the 20th", 20, () -> x.give(21));
        DUE.bounds("the 21st", () -> x.give(22));
        DUE.bounds("the lowest", () -> x.give(1));
        DUE.bounds("one that is there already", () -> x.give(2));
        DUE.bounds("a denial", () -> x.give(-21));
        DUE.is("20 stay", 20, () -> x.count(2));
        DUE.is("none of them is lost, none came", "0" + "1".repeat(20) + "0", () -> Calls.leastWith(x));
        DUE.is("room again behind a solve", 1, () -> x.give(2));
        Calls.give(x, Calls.range(3, 21));
        DUE.bounds("20 again", () -> x.give(1));
        x.clause();
        DUE.is("room again behind a clause", 1, () -> x.give(-2));
        Calls.give(x, Calls.range(-3, -20));
        DUE.is("one of the clause is left", Calls.onlyTrue(22, 21), () -> Calls.leastWith(x));
        Calls.give(x, Calls.range(-2, -21));
        DUE.is("none of the clause is left", "no", () -> Calls.leastWith(x));
    }

    private static void howManyLiterals() {
        DUE.sentence("Answers how many.");
        ClauseSearch x = Calls.withVariables(2);
        DUE.is("the first", 1, () -> x.give(2));
        DUE.is("the second", 2, () -> x.give(-2));
        DUE.is("count(2)", 2, () -> x.count(2));
        x.variables(1);
        DUE.is("a variable leaves them", 3, () -> x.give(3));
        x.clause();
        DUE.is("the first behind a clause", 1, () -> x.give(1));
        x.solve();
        DUE.is("the first behind a yes", 1, () -> x.give(1));
        DUE.is("the denial beside it", 2, () -> x.give(-1));
        x.solve();
        DUE.is("the first behind a no", 1, () -> x.give(1));
    }

    private static void clauseOfAnEmptyRow() {
        DUE.sentence("THE ROW is empty: IllegalStateException;");
        ClauseSearch x = new ClauseSearch();
        DUE.state("no variable", x::clause);
        x.variables(2);
        DUE.state("nothing given", x::clause);
        DUE.argument("what is refused", () -> x.give(3));
        DUE.state("does not come to the row", x::clause);
        Calls.addClause(x, 1);
        DUE.state("behind a clause", x::clause);
        x.solve();
        DUE.state("behind a yes", x::clause);
        Calls.solveWith(x, -1);
        DUE.state("behind a no", x::clause);
        DUE.is("still one clause", 1, () -> x.count(1));
        DUE.is("the row of one", 2, () -> Calls.addClause(x, 2));
    }

    private static void clauseEmptiesTheRow() {
        DUE.sentence("It becomes a CLAUSE, and is empty.");
        ClauseSearch x = Calls.withVariables(20);
        for (int length : new int[] {1, 2, 19, 20}) {
            Calls.addClause(x, Calls.range(21 - length, 20));
            DUE.is("behind a clause of " + length, 0, () -> x.count(2));
        }
        DUE.is("nothing of it is assumed", Calls.onlyTrue(20, 20), () -> Calls.leastWith(x));
        Calls.addClause(x, 1);
        DUE.is("nor comes to the next clause", Calls.onlyTrue(20, 1, 20), () -> Calls.leastWith(x));
    }

    private static void howManyClauses() {
        DUE.sentence("Answers how many CLAUSES there are.");
        ClauseSearch x = Calls.withVariables(3);
        DUE.is("the first", 1, () -> Calls.addClause(x, 1));
        DUE.is("the same again", 2, () -> Calls.addClause(x, 1));
        DUE.is("one that is always true", 3, () -> Calls.addClause(x, 2, -2));
        DUE.is("one with a literal twice", 4, () -> Calls.addClause(x, 3, 3));
        x.solve();
        DUE.is("behind a yes", 5, () -> Calls.addClause(x, -1));
        x.solve();
        DUE.is("where none is good any more", 6, () -> Calls.addClause(x, 2, 3));
        DUE.is("count(1)", 6, () -> x.count(1));
    }

    private static void solveWithNothing() {
        DUE.sentence("Whether there is a good WAY, the LITERALS of THE ROW (also none) assumed;");
        ClauseSearch x = new ClauseSearch();
        DUE.is("no variable, no clause", true, x::solve);
        DUE.is("and again", true, x::solve);
        x.variables(1);
        DUE.is("a variable, no clause", "0", () -> Calls.leastWith(x));
        Calls.addClause(x, 1);
        DUE.is("none assumed", "1", () -> Calls.leastWith(x));
        Calls.addClause(x, -1);
        DUE.is("no way at all", "no", () -> Calls.leastWith(x));
        DUE.is("whatever is assumed", "no", () -> Calls.leastWith(x, 1));
        x.variables(1);
        DUE.is("nor with a new variable", "no", () -> Calls.leastWith(x, 2));
        DUE.is("no way was found there", "2 2 0 0 0 0", () -> Calls.counts(x));
    }

    private static void solveWithAssumed() {
        DUE.sentence("Whether there is a good WAY, the LITERALS of THE ROW (also none) assumed;");
        ClauseSearch x = Calls.withVariables(20);
        DUE.is("one, and its denial", "no", () -> Calls.leastWith(x, 1, -1));
        DUE.is("its denial 19 places behind it", "no", () -> {
            int[] assumed = Calls.range(1, 20);
            assumed[19] = -1;
            return Calls.leastWith(x, assumed);
        });
        DUE.is("20, all different", "1".repeat(20), () -> Calls.leastWith(x, Calls.range(1, 20)));
        DUE.is("20 denials", "0".repeat(20), () -> Calls.leastWith(x, Calls.range(-1, -20)));
        Calls.addClause(x, -1, -20);
        DUE.is("the first and the last against a clause", "no", () -> Calls.leastWith(x, Calls.range(1, 20)));
        Calls.addClause(x, 5);
        DUE.is("against a clause of one", "no", () -> Calls.leastWith(x, -5));
        DUE.is("with a clause of one", Calls.onlyTrue(20, 5), () -> Calls.leastWith(x, 5));
        DUE.is("assumed before, not now", Calls.onlyTrue(20, 5), () -> Calls.leastWith(x));
    }

    private static void solveEmptiesTheRow() {
        DUE.sentence("that is empty then.");
        ClauseSearch x = Calls.withVariables(1);
        for (int length : new int[] {0, 1, 20}) {
            Calls.solveWith(x, Calls.times(length, 1));
            DUE.is(length + " assumed, a yes", "1 0 0 1 0 0", () -> Calls.counts(x));
        }
        DUE.is("and assumed no more", "0", () -> Calls.leastWith(x));
        Calls.addClause(x, -1);
        for (int length : new int[] {1, 20}) {
            Calls.solveWith(x, Calls.times(length, 1));
            DUE.is(length + " assumed, a no", "1 1 0 0 0 0", () -> Calls.counts(x));
        }
        Calls.addClause(x, 1);
        Calls.solveWith(x, 1);
        DUE.is("a no for good", "1 2 0 0 0 0", () -> Calls.counts(x));
        Calls.solveWith(x, 1);
        DUE.is("and again", "1 2 0 0 0 0", () -> Calls.counts(x));
    }

    private static void valueBehindANo() {
        DUE.sentence("The latest solve answered no, there was none, or a VARIABLE or CLAUSE came behind it: "
                + "IllegalStateException;");
        ClauseSearch x = Calls.withVariables(1);
        Calls.addClause(x, 1);
        DUE.is("a no", false, () -> Calls.solveWith(x, -1));
        DUE.state("behind it", () -> x.value(1));
        DUE.is("a yes", true, x::solve);
        DUE.is("behind it", true, () -> x.value(1));
        DUE.is("a no behind a yes", false, () -> Calls.solveWith(x, -1));
        DUE.state("the earlier yes does not matter", () -> x.value(1));
        Calls.addClause(x, -1);
        DUE.is("a no for good", false, x::solve);
        DUE.state("behind it", () -> x.value(1));
    }

    private static void valueBehindNoSolve() {
        DUE.sentence("The latest solve answered no, there was none, or a VARIABLE or CLAUSE came behind it: "
                + "IllegalStateException;");
        ClauseSearch x = Calls.withVariables(1);
        DUE.state("no solve, no clause", () -> x.value(1));
        Calls.addClause(x, 1);
        DUE.state("no solve, a clause", () -> x.value(1));
        x.give(1);
        DUE.state("no solve, a row", () -> x.value(1));
    }

    private static void valueBehindAVariable() {
        DUE.sentence("The latest solve answered no, there was none, or a VARIABLE or CLAUSE came behind it: "
                + "IllegalStateException;");
        ClauseSearch x = Calls.withVariables(1);
        x.solve();
        DUE.is("before it", false, () -> x.value(1));
        x.variables(1);
        DUE.state("an old one", () -> x.value(1));
        DUE.state("the new one", () -> x.value(2));
        x.solve();
        DUE.is("sought again", "00", () -> Calls.way(x));
        x.variables(398);
        DUE.state("the 400th", () -> x.value(400));
        x.solve();
        DUE.bounds("a variable that is refused", () -> x.variables(1));
        DUE.argument("none at all", () -> x.variables(0));
        DUE.is("leaves the way", false, () -> x.value(400));
        ClauseSearch y = new ClauseSearch();
        y.solve();
        y.variables(1);
        DUE.state("the first one", () -> y.value(1));
    }

    private static void valueBehindAClause() {
        DUE.sentence("The latest solve answered no, there was none, or a VARIABLE or CLAUSE came behind it: "
                + "IllegalStateException;");
        int[][] clauses = {{1}, {-1}, {1, -1}, {2, 2}, {1, 2}};
        for (int[] clause : clauses) {
            ClauseSearch x = Calls.withVariables(2);
            Calls.addClause(x, 1);
            x.solve();
            DUE.state("a clause that is refused", x::clause);
            DUE.is("leaves the way", "10", () -> Calls.way(x));
            Calls.addClause(x, clause);
            DUE.state("behind one that begins with " + clause[0], () -> x.value(1));
            DUE.state("and of another variable", () -> x.value(2));
        }
    }

    private static void valueOfNoVariable() {
        DUE.sentence("v the number of a VARIABLE (looked at first).");
        ClauseSearch x = Calls.withVariables(2);
        wrongNumbers("no solve", x, 2);
        x.solve();
        DUE.is("the first and the last", "00", () -> Calls.way(x));
        wrongNumbers("behind a yes", x, 2);
        DUE.is("a no", false, () -> Calls.solveWith(x, 1, -1));
        wrongNumbers("behind a no", x, 2);
        x.solve();
        Calls.addClause(x, 1);
        wrongNumbers("behind a clause", x, 2);
        x.solve();
        x.variables(398);
        wrongNumbers("behind variables", x, 400);
        x.solve();
        wrongNumbers("of 400", x, 400);
        DUE.is("the last of 400", false, () -> x.value(400));
        ClauseSearch none = new ClauseSearch();
        wrongNumbers("of none", none, 0);
        none.solve();
        wrongNumbers("of none, behind a yes", none, 0);
    }

    private static void wrongNumbers(String when, ClauseSearch x, int present) {
        DUE.argument(when + ": 0", () -> x.value(0));
        DUE.argument(when + ": -1", () -> x.value(-1));
        DUE.argument(when + ": the next one", () -> x.value(present + 1));
        for (int v : FARTHEST) {
            DUE.argument(when + ": " + v, () -> x.value(v));
        }
    }

    private static void valueBehindGiven() {
        DUE.sentence("What is given to THE ROW since does not matter.");
        ClauseSearch x = Calls.withVariables(2);
        Calls.addClause(x, 1);
        x.solve();
        for (int i = 1; i <= 20; i++) {
            x.give(i % 2 == 0 ? 2 : -1);
            DUE.is(i + " given", "10", () -> Calls.way(x));
        }
        DUE.bounds("one that is refused", () -> x.give(2));
        DUE.is("behind it", "10", () -> Calls.way(x));
        x.solve();
        x.give(1);
        DUE.state("nor does it help behind a no", () -> x.value(1));
    }

    private static void valueWithWhatWasAssumed() {
        DUE.sentence("Whether it is true in the least good WAY, with what was assumed then");
        ClauseSearch x = Calls.withVariables(3);
        Calls.addClause(x, 1, 2);
        DUE.is("none", "010", () -> Calls.leastWith(x));
        DUE.is("the last variable", "011", () -> Calls.leastWith(x, 3));
        DUE.is("a denial", "100", () -> Calls.leastWith(x, -2));
        DUE.is("both", "101", () -> Calls.leastWith(x, -2, 3));
        Calls.give(x, 2, -3);
        DUE.is("not what is given since", "101", () -> Calls.way(x));
        DUE.is("but what was given before the latest solve", "010", () -> Calls.leastWith(x));
    }

    private static void valueIsLeast() {
        DUE.sentence("VARIABLE 1 is false if there is a good WAY in which it is, then so VARIABLE 2 "
                + "with what 1 is, and so on.");
        ClauseSearch x = Calls.withVariables(3);
        Calls.addClause(x, 1, 2);
        Calls.addClause(x, 1, 3);
        DUE.is("1 false costs 2 and 3", "011", () -> Calls.leastWith(x));
        Calls.addClause(x, -2, -3);
        DUE.is("1 cannot be false", "100", () -> Calls.leastWith(x));
        ClauseSearch groups = Calls.withVariables(100);
        for (int v = 1; v < 100; v += 4) {
            Calls.addClause(groups, v, v + 1, v + 3);
        }
        DUE.is("the last of each clause", "0001".repeat(25), () -> Calls.leastWith(groups));
        DUE.is("the last of all is denied", "0001".repeat(24) + "0100", () -> Calls.leastWith(groups, -100));
        ClauseSearch chain = Calls.withVariables(100);
        for (int v = 1; v < 100; v++) {
            Calls.addClause(chain, -v, v + 1);
        }
        DUE.is("nothing asks for a truth", "0".repeat(100), () -> Calls.leastWith(chain));
        DUE.is("the first asks for all", "1".repeat(100), () -> Calls.leastWith(chain, 1));
        ClauseSearch most = Calls.withVariables(400);
        Calls.addClause(most, 400, 1, 399);
        Calls.addClause(most, -400, 399);
        DUE.is("of 400, the last but one", Calls.onlyTrue(400, 399), () -> Calls.leastWith(most));
        DUE.is("and if it is denied, the first", true, () -> Calls.solveWith(most, -399) && most.value(1));
    }

    private static void countOfEach() {
        DUE.sentence("0 VARIABLES, 1 CLAUSES, 2 LITERALS in THE ROW");
        ClauseSearch x = Calls.withVariables(400);
        DUE.is("400 variables", "400 0 0 0 0 0", () -> Calls.counts(x));
        Calls.addClause(x, 1);
        Calls.addClause(x, 400, -400);
        DUE.is("2 clauses", "400 2 0 0 0 0", () -> Calls.counts(x));
        Calls.give(x, Calls.range(-1, -20));
        DUE.is("20 literals", "400 2 20 0 0 0", () -> Calls.counts(x));
        DUE.bounds("one too many", () -> x.give(1));
        DUE.is("still 20", "400 2 20 0 0 0", () -> Calls.counts(x));
    }

    private static void countWhetherValueCanBeAsked() {
        DUE.sentence("3: 1 if value can be asked (the latest solve answered yes, and no VARIABLE or CLAUSE "
                + "came behind it), else 0");
        ClauseSearch x = new ClauseSearch();
        DUE.is("no solve", 0, () -> x.count(3));
        x.solve();
        DUE.is("behind a yes, though no variable is there", 1, () -> x.count(3));
        x.variables(1);
        DUE.is("behind a variable", 0, () -> x.count(3));
        x.solve();
        x.give(1);
        DUE.is("behind a yes and what is given", 1, () -> x.count(3));
        x.clause();
        DUE.is("behind a clause", 0, () -> x.count(3));
        Calls.solveWith(x, -1);
        DUE.is("behind a no", 0, () -> x.count(3));
        x.solve();
        DUE.is("behind a yes behind a no", 1, () -> x.count(3));
        Calls.solveWith(x, -1);
        DUE.is("behind a no behind a yes", 0, () -> x.count(3));
    }

    /** One way after the other is ruled out, from the least on, so that there is much to learn. */
    private static void countOfFaults() {
        DUE.sentence("(4, 5: 0 in a search that is right.)");
        ClauseSearch x = Calls.withVariables(5);
        for (int ruledOut = 0; ruledOut < 32; ruledOut++) {
            for (int v = 1; v <= 5; v++) {
                x.give((ruledOut >> 5 - v & 1) == 1 ? -v : v);
            }
            x.clause();
            String due = Integer.toBinaryString(32 + ruledOut + 1).substring(1);
            DUE.is(ruledOut + 1 + " ways ruled out", ruledOut == 31 ? "no" : due, () -> Calls.leastWith(x));
        }
        DUE.is("behind all of them", "5 32 0 0 0 0", () -> Calls.counts(x));
    }

    private static void countOfNothing() {
        DUE.sentence("what 0 .. 5.");
        ClauseSearch x = Calls.withVariables(1);
        x.solve();
        for (int what : new int[] {-1, 6, 7, -5, 400}) {
            DUE.argument("count(" + what + ")", () -> x.count(what));
        }
        for (int what : FARTHEST) {
            DUE.argument("count(" + what + ")", () -> x.count(what));
        }
        int[] due = {1, 0, 0, 1, 0, 0};
        for (int i = 0; i <= 5; i++) {
            int what = i;
            DUE.is("count(" + what + ")", due[what], () -> x.count(what));
        }
    }
}
