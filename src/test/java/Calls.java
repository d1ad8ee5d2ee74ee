import java.util.ArrayList;
import java.util.Arrays;
import java.util.List;

/** Short forms of calls that the tests make again and again. */
final class Calls {
    private Calls() {
    }

    static ClauseSearch withVariables(int n) {
        ClauseSearch x = new ClauseSearch();
        x.variables(n);
        return x;
    }

    static ClauseSearch withClauses(int variables, List<int[]> clauses) {
        ClauseSearch x = withVariables(variables);
        for (int[] clause : clauses) {
            addClause(x, clause);
        }
        return x;
    }

    static void give(ClauseSearch x, int... literals) {
        for (int l : literals) {
            x.give(l);
        }
    }

    static int addClause(ClauseSearch x, int... literals) {
        give(x, literals);
        return x.clause();
    }

    static boolean solveWith(ClauseSearch x, int... assumed) {
        give(x, assumed);
        return x.solve();
    }

    /** The least good way with what is assumed, as a text of 0 and 1, or "no". */
    static String leastWith(ClauseSearch x, int... assumed) {
        return solveWith(x, assumed) ? way(x) : "no";
    }

    /** The truths of all variables, as a text of 0 and 1. */
    static String way(ClauseSearch x) {
        int variables = x.count(0);
        StringBuilder text = new StringBuilder();
        for (int v = 1; v <= variables; v++) {
            text.append(x.value(v) ? '1' : '0');
        }
        return text.toString();
    }

    /** A way in which these variables alone are true. */
    static String onlyTrue(int variables, int... which) {
        char[] text = "0".repeat(variables).toCharArray();
        for (int v : which) {
            text[v - 1] = '1';
        }
        return new String(text);
    }

    /** All that count tells, from 0 to 5. */
    static String counts(ClauseSearch x) {
        List<String> counts = new ArrayList<>();
        for (int what = 0; what <= 5; what++) {
            counts.add(String.valueOf(x.count(what)));
        }
        return String.join(" ", counts);
    }

    /** The literals from, from + 1, .. to, or from, from - 1, .. to. */
    static int[] range(int from, int to) {
        int[] literals = new int[Math.abs(to - from) + 1];
        for (int i = 0; i < literals.length; i++) {
            literals[i] = from < to ? from + i : from - i;
        }
        return literals;
    }

    /** The same literal, several times. */
    static int[] times(int times, int literal) {
        int[] literals = new int[times];
        Arrays.fill(literals, literal);
        return literals;
    }
}
