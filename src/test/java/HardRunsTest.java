import java.util.ArrayList;
import java.util.Collections;
import java.util.List;
import java.util.Random;

/** Searches that learn much, some more than the program keeps, all within 512 calls. */
public final class HardRunsTest {
    private static final Due DUE = new Due();
    /** The search learns 328,388 lessons in 736,098 steps; all others of 3500 seeds tried need fewer. */
    private static final int SEED_OF_LONG_SEARCH = 2698;

    public static void main(String[] args) {
        for (int holes = 3; holes <= 6; holes++) {
            pigeons(holes);
        }
        for (int seed = 0; seed < 10; seed++) {
            noWay("graph " + seed, oddDegrees(seed));
            triples(13, seed);
        }
        triples(14, SEED_OF_LONG_SEARCH);
        DUE.end();
    }

    private static void noWay(String what, ClauseSearch x) {
        DUE.is(what, false, x::solve);
        searchWasRight(what, x);
    }

    private static void searchWasRight(String what, ClauseSearch x) {
        DUE.is(what + ": lessons that did not follow", 0, () -> x.count(4));
        DUE.is(what + ": ways that were not good", 0, () -> x.count(5));
    }

    /** One pigeon more than holes; pigeon p in hole h is variable p * holes + h + 1. */
    private static void pigeons(int holes) {
        List<int[]> clauses = new ArrayList<>();
        for (int p = 0; p <= holes; p++) {
            int[] somewhere = new int[holes];
            for (int h = 0; h < holes; h++) {
                somewhere[h] = p * holes + h + 1;
            }
            clauses.add(somewhere);
        }
        for (int h = 1; h <= holes; h++) {
            for (int p = 0; p <= holes; p++) {
                for (int q = 0; q < p; q++) {
                    clauses.add(new int[] {-(p * holes + h), -(q * holes + h)});
                }
            }
        }
        String what = holes + " holes";
        noWay(what, Calls.withClauses((holes + 1) * holes, clauses));
        ClauseSearch y = Calls.withClauses((holes + 1) * holes, clauses.subList(1, clauses.size()));
        DUE.is(what + ", a pigeon may stay away", true, y::solve);
        for (int p = 1; p <= holes; p++) {
            int due = p * holes + holes - p + 1;
            DUE.is(what + ", pigeon " + p, true, () -> y.value(due));
        }
        y.give(1);
        DUE.is(what + ", it may not", false, y::solve);
        searchWasRight(what, y);
    }

    /** A graph whose edges are variables: at one vertex an odd number is true, elsewhere an even one. */
    static ClauseSearch oddDegrees(int seed) {
        int vertices = 30;
        List<Integer> ends = new ArrayList<>();
        for (int i = 0; i < 3 * vertices; i++) {
            ends.add(i / 2 + 1);
        }
        Collections.shuffle(ends, new Random(seed));
        List<int[]> clauses = new ArrayList<>();
        for (int v = 0; v < vertices; v++) {
            for (int signs = 0; signs < 8; signs++) {
                if (Integer.bitCount(signs) % 2 == (v == 0 ? 0 : 1)) {
                    clauses.add(signed(ends.subList(3 * v, 3 * v + 3), signs));
                }
            }
        }
        return Calls.withClauses(3 * vertices / 2, clauses);
    }

    private static int[] signed(List<Integer> variables, int signs) {
        int[] clause = new int[variables.size()];
        for (int i = 0; i < clause.length; i++) {
            clause[i] = (signs >> i & 1) == 1 ? -variables.get(i) : variables.get(i);
        }
        return clause;
    }

    /**
     * Two ways to put variables into groups of 4 and one of 5: of a group of the first at most 2 are
     * true, of one of the second at most 2 false. That cannot be, unless variable 1 makes the first
     * clause true: the yes comes behind the search for a way in which it is false.
     */
    private static void triples(int groups, int seed) {
        List<Integer> variables = new ArrayList<>();
        for (int v = 2; v <= 4 * groups + 2; v++) {
            variables.add(v);
        }
        Random random = new Random(seed);
        List<int[]> clauses = new ArrayList<>();
        for (int sign = -1; sign <= 1; sign += 2) {
            Collections.shuffle(variables, random);
            for (int g = 0; g < groups; g++) {
                int end = g == groups - 1 ? variables.size() : 4 * g + 4;
                noneOfThree(variables.subList(4 * g, end), sign, clauses);
            }
        }
        int[] first = clauses.get(0);
        clauses.set(0, new int[] {first[0], first[1], first[2], 1});
        ClauseSearch x = Calls.withClauses(4 * groups + 2, clauses);
        String what = groups + " groups, seed " + seed;
        DUE.is(what + ": with variable 1", true, () -> x.solve() && x.value(1));
        DUE.is(what + ": without it", false, () -> Calls.solveWith(x, -1));
        searchWasRight(what, x);
    }

    private static void noneOfThree(List<Integer> group, int sign, List<int[]> clauses) {
        for (int a = 0; a < group.size(); a++) {
            for (int b = 0; b < a; b++) {
                for (int c = 0; c < b; c++) {
                    clauses.add(new int[] {sign * group.get(a), sign * group.get(b), sign * group.get(c)});
                }
            }
        }
    }
}
