import java.util.ArrayList;
import java.util.List;

/** The document word by word, its search by trying all ways in order: right, but for few variables. */
final class PlainModel {
    private final List<int[]> clauses = new ArrayList<>();
    private final List<Integer> row = new ArrayList<>();
    private int variables;
    private boolean[] way;

    int variables(int n) {
        if (n < 1 || n > 400) {
            throw new IllegalArgumentException();
        }
        if (variables + n > 400) {
            throw new IndexOutOfBoundsException();
        }
        variables += n;
        way = null;
        return variables;
    }

    int give(int l) {
        if (l == 0 || l < -variables || l > variables) {
            throw new IllegalArgumentException();
        }
        if (row.size() == 20) {
            throw new IndexOutOfBoundsException();
        }
        row.add(l);
        return row.size();
    }

    int clause() {
        if (row.isEmpty()) {
            throw new IllegalStateException();
        }
        if (clauses.size() == 4000) {
            throw new IndexOutOfBoundsException();
        }
        clauses.add(row.stream().mapToInt(Integer::intValue).toArray());
        row.clear();
        way = null;
        return clauses.size();
    }

    boolean solve() {
        List<int[]> all = new ArrayList<>(clauses);
        for (int l : row) {
            all.add(new int[] {l});
        }
        row.clear();
        boolean[] next = new boolean[variables + 1];
        way = completes(all, next, 1) ? next : null;
        return way != null;
    }

    /** Variables below v have their truths; false is tried first, so the first way found is the least. */
    private boolean completes(List<int[]> all, boolean[] next, int v) {
        for (int[] c : all) {
            if (isFalse(c, next, v)) {
                return false;
            }
        }
        if (v > variables) {
            return true;
        }
        next[v] = false;
        if (completes(all, next, v + 1)) {
            return true;
        }
        next[v] = true;
        return completes(all, next, v + 1);
    }

    private static boolean isFalse(int[] clause, boolean[] next, int v) {
        for (int l : clause) {
            if (Math.abs(l) >= v || next[Math.abs(l)] == l > 0) {
                return false;
            }
        }
        return true;
    }

    boolean value(int v) {
        if (v < 1 || v > variables) {
            throw new IllegalArgumentException();
        }
        if (way == null) {
            throw new IllegalStateException();
        }
        return way[v];
    }

    int count(int what) {
        if (what < 0 || what > 5) {
            throw new IllegalArgumentException();
        }
        int[] counts = {variables, clauses.size(), row.size(), way == null ? 0 : 1, 0, 0};
        return counts[what];
    }
}
