import java.util.ArrayList;
import java.util.Arrays;
import java.util.Collections;
import java.util.List;
import java.util.Random;

/** Searches that learn much, some more than the program keeps, all within 512 calls. */
public final class HardRunsTest {
    private static final Due DUE = new Due();
    /** Found by trying which small changes make the search longer: it takes 2,068,959 steps. */
    private static final Integer[][] LONG_SEARCH = {
        {
            25, 3, 48, 49, 54, 5, 56, 50, 22, 37, 18, 19, 13, 33, 45, 43, 29, 17, 6, 4,
            28, 34, 44, 10, 21, 38, 52, 30, 24, 53, 41, 8, 35, 32, 55, 39, 36, 31, 27, 42,
            23, 57, 40, 26, 58, 20, 16, 9, 12, 51, 47, 46, 2, 15, 7, 11, 14
        },
        {
            30, 4, 17, 32, 7, 21, 54, 11, 34, 2, 56, 5, 20, 42, 9, 28, 31, 46, 14, 52,
            25, 12, 58, 10, 36, 18, 22, 40, 44, 38, 16, 33, 29, 6, 55, 19, 49, 26, 3, 51,
            37, 47, 24, 39, 41, 43, 50, 57, 15, 53, 27, 8, 45, 13, 23, 35, 48
        }
    };

    public static void main(String[] args) {
        for (int holes = 3; holes <= 6; holes++) {
            pigeons(holes);
        }
        for (int seed = 0; seed < 10; seed++) {
            noWay("graph " + seed, oddDegrees(seed));
            triples(13, seed);
        }
        triples("a long search", Arrays.asList(LONG_SEARCH[0]), Arrays.asList(LONG_SEARCH[1]));
        longLesson();
        DUE.end();
    }

    private static void noWay(String what, ClauseSearch x) {
        DUE.is(what, false, x::solve);
        searchWasRight(what, x);
    }

    private static void searchWasRight(String what, ClauseSearch x) {
        DUE.is(what + ": lessons that did not follow", 0, () -> x.count(4));
        DUE.is(what + ": ways that were not good", 0, () -> x.count(5));
    }

    /** One pigeon more than holes; pigeon p in hole h is variable p * holes + h + 1. */
    private static void pigeons(int holes) {
        List<int[]> clauses = new ArrayList<>();
        for (int p = 0; p <= holes; p++) {
            int[] somewhere = new int[holes];
            for (int h = 0; h < holes; h++) {
                somewhere[h] = p * holes + h + 1;
            }
            clauses.add(somewhere);
        }
        for (int h = 1; h <= holes; h++) {
            for (int p = 0; p <= holes; p++) {
                for (int q = 0; q < p; q++) {
                    clauses.add(new int[] {-(p * holes + h), -(q * holes + h)});
                }
            }
        }
        String what = holes + " holes";
        noWay(what, Calls.withClauses((holes + 1) * holes, clauses));
        ClauseSearch y = Calls.withClauses((holes + 1) * holes, clauses.subList(1, clauses.size()));
        DUE.is(what + ", a pigeon may stay away", true, y::solve);
        for (int p = 1; p <= holes; p++) {
            int due = p * holes + holes - p + 1;
            DUE.is(what + ", pigeon " + p, true, () -> y.value(due));
        }
        y.give(1);
        DUE.is(what + ", it may not", false, y::solve);
        searchWasRight(what, y);
    }

    /** A graph whose edges are variables: at one vertex an odd number is true, elsewhere an even one. */
    static ClauseSearch oddDegrees(int seed) {
        int vertices = 30;
        List<Integer> ends = new ArrayList<>();
        for (int i = 0; i < 3 * vertices; i++) {
            ends.add(i / 2 + 1);
        }
        Collections.shuffle(ends, new Random(seed));
        List<int[]> clauses = new ArrayList<>();
        for (int v = 0; v < vertices; v++) {
            for (int signs = 0; signs < 8; signs++) {
                if (Integer.bitCount(signs) % 2 == (v == 0 ? 0 : 1)) {
                    clauses.add(signed(ends.subList(3 * v, 3 * v + 3), signs));
                }
            }
        }
        return Calls.withClauses(3 * vertices / 2, clauses);
    }

    private static int[] signed(List<Integer> variables, int signs) {
        int[] clause = new int[variables.size()];
        for (int i = 0; i < clause.length; i++) {
            clause[i] = (signs >> i & 1) == 1 ? -variables.get(i) : variables.get(i);
        }
        return clause;
    }

    private static void triples(int groups, int seed) {
        List<Integer> first = new ArrayList<>();
        for (int v = 2; v <= 4 * groups + 2; v++) {
            first.add(v);
        }
        Random random = new Random(seed);
        Collections.shuffle(first, random);
        List<Integer> second = new ArrayList<>(first);
        Collections.shuffle(second, random);
        triples(groups + " groups, seed " + seed, first, second);
    }

    /**
     * Two ways to put variables into groups of 4 and one of 5: of a group of the first at most 2 are
     * true, of one of the second at most 2 false. That cannot be, unless variable 1 makes the first
     * clause true: the yes comes behind the search for a way in which it is false.
     */
    private static void triples(String what, List<Integer> first, List<Integer> second) {
        List<int[]> clauses = new ArrayList<>();
        groupsOfFour(first, -1, clauses);
        groupsOfFour(second, 1, clauses);
        int[] weaker = Arrays.copyOf(clauses.get(0), 4);
        weaker[3] = 1;
        clauses.set(0, weaker);
        ClauseSearch x = Calls.withClauses(first.size() + 1, clauses);
        DUE.is(what + ": with variable 1", true, () -> x.solve() && x.value(1));
        DUE.is(what + ": without it", false, () -> Calls.solveWith(x, -1));
        searchWasRight(what, x);
    }

    private static void groupsOfFour(List<Integer> variables, int sign, List<int[]> clauses) {
        int groups = variables.size() / 4;
        for (int g = 0; g < groups; g++) {
            int end = g == groups - 1 ? variables.size() : 4 * g + 4;
            noneOfThree(variables.subList(4 * g, end), sign, clauses);
        }
    }

    private static void noneOfThree(List<Integer> group, int sign, List<int[]> clauses) {
        for (int a = 0; a < group.size(); a++) {
            for (int b = 0; b < a; b++) {
                for (int c = 0; c < b; c++) {
                    clauses.add(new int[] {sign * group.get(a), sign * group.get(b), sign * group.get(c)});
                }
            }
        }
    }

    /**
     * Variables 1 to 379 are false; then 380, if it is false too, forces 381, that 382, and so on to 400,
     * which cannot be: the lesson names all of 1 to 380.
     */
    private static void longLesson() {
        List<int[]> clauses = new ArrayList<>();
        for (int link = 0; link <= 20; link++) {
            int[] clause = Calls.range(18 * link, 18 * link + 19);
            clause[0] = link == 0 ? 380 : -(380 + link);
            clause[19] = link == 20 ? 379 : 381 + link;
            clauses.add(clause);
        }
        ClauseSearch x = Calls.withClauses(400, clauses);
        DUE.is("a long lesson", true, x::solve);
        for (int v = 370; v <= 390; v++) {
            int asked = v;
            DUE.is("a long lesson, variable " + v, v == 380, () -> x.value(asked));
        }
        DUE.is("a long lesson, against it", true, () -> Calls.solveWith(x, -380));
        for (int v = 370; v <= 390; v++) {
            int asked = v;
            DUE.is("against it, variable " + v, v == 379 || v > 380, () -> x.value(asked));
        }
        searchWasRight("a long lesson", x);
    }
}
