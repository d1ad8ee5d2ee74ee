import java.lang.reflect.Array;
import java.lang.reflect.Field;
import java.lang.reflect.Method;
import java.lang.reflect.Modifier;
import java.util.ArrayList;
import java.util.Arrays;
import java.util.Collections;
import java.util.IdentityHashMap;
import java.util.List;
import java.util.Set;

/**
 * What no 512 calls of the face can show while the search is right: that a wrong lesson and a way that
 * is not good would be found, and that there are never more than 4000 clauses; and that an object stays
 * small. Where the search errs, the document promises no answer of solve, so none is looked at there.
 */
public final class InsideTest {
    private static final Due DUE = new Due();

    public static void main(String[] args) {
        wrongLessonIsFound();
        wrongLessonIsCounted();
        badWayIsFound();
        badWayIsCounted();
        mostClauses();
        clauseBehind4000();
        refusedClauseLeavesTheWay();
        refusedClauseBecomesNone();
        objectIsSmall();
        DUE.end();
    }

    private static Field field(Object of, String name) throws ReflectiveOperationException {
        Field f = of.getClass().getDeclaredField(name);
        f.setAccessible(true);
        return f;
    }

    private static Object get(Object of, String name) {
        try {
            return field(of, name).get(of);
        } catch (ReflectiveOperationException e) {
            throw new RuntimeException(e);
        }
    }

    private static Object call(Object of, String name, Object... with) {
        try {
            for (Method m : of.getClass().getDeclaredMethods()) {
                if (m.getName().equals(name)) {
                    m.setAccessible(true);
                    return m.invoke(of, with);
                }
            }
            throw new NoSuchMethodException(name);
        } catch (ReflectiveOperationException e) {
            throw new RuntimeException(e);
        }
    }

    private static ClauseSearch with(int variables, int[]... clauses) {
        return Calls.withClauses(variables, List.of(clauses));
    }

    /** Lets the check look at a lesson that is said to come from the first rows, in this order. */
    private static boolean follows(ClauseSearch x, int usedRows, int... literals) {
        Object search = get(x, "search");
        Object lesson = get(search, "lesson");
        int[] codes = (int[]) get(lesson, "codes");
        int[] used = (int[]) get(lesson, "used");
        for (int i = 0; i < literals.length; i++) {
            codes[i] = literals[i] > 0 ? 2 * literals[i] : 1 - 2 * literals[i];
        }
        for (int i = 0; i < usedRows; i++) {
            used[i] = i;
        }
        try {
            field(lesson, "size").setInt(lesson, literals.length);
            field(lesson, "usedSize").setInt(lesson, usedRows);
        } catch (ReflectiveOperationException e) {
            throw new RuntimeException(e);
        }
        return (Boolean) call(get(search, "check"), "follows", lesson);
    }

    private static void wrongLessonIsFound() {
        DUE.sentence("4 lessons that did not follow");
        ClauseSearch x = with(3, new int[] {1, 2}, new int[] {1, -2}, new int[] {2, 3});
        DUE.is("1 follows", true, () -> follows(x, 2, 1));
        DUE.is("1 or 3 follows", true, () -> follows(x, 2, 1, 3));
        DUE.is("3 does not", false, () -> follows(x, 2, 3));
        DUE.is("the denial of 1 does not", false, () -> follows(x, 2, -1));
        DUE.is("1 does not, from the first row alone", false, () -> follows(x, 1, 1));
        DUE.is("1 does not, from no row", false, () -> follows(x, 0, 1));
        DUE.is("and 1 still follows", true, () -> follows(x, 2, 1));
        ClauseSearch y = with(3, new int[] {1, -3}, new int[] {1, 2, 3});
        DUE.is("1 does not, where 2 or 3 is left open", false, () -> follows(y, 2, 1));
    }

    /** Variable 1 is marked as seen before the search begins, so that the lesson lacks it. */
    private static void wrongLessonIsCounted() {
        DUE.sentence("4 lessons that did not follow");
        ClauseSearch x = with(3, new int[] {1, 2, 3}, new int[] {1, 2, -3});
        ((boolean[]) get(get(get(x, "search"), "lesson"), "seen"))[1] = true;
        x.solve();
        DUE.is("behind a wrong lesson", 1, () -> x.count(4));
        ClauseSearch y = with(3, new int[] {1, 2, 3}, new int[] {1, 2, -3});
        DUE.is("a right lesson is learnt", "010", () -> Calls.leastWith(y));
        DUE.is("behind it", 0, () -> y.count(4));
    }

    private static void badWayIsFound() {
        DUE.sentence("5 ways found that were not good");
        ClauseSearch x = with(3, new int[] {1, 2}, new int[] {-1, 3});
        boolean[] way = (boolean[]) get(x, "way");
        DUE.is("a way with none of 1, 2", false, () -> call(x, "wayIsGood"));
        way[2] = true;
        DUE.is("a way with 2", true, () -> call(x, "wayIsGood"));
        x.give(-2);
        DUE.is("where 2 is assumed to be false", false, () -> call(x, "wayIsGood"));
        x.solve();
        DUE.is("the way found", true, () -> call(x, "wayIsGood"));
    }

    /** What the search waits for is taken from it, so that it follows no clause. */
    private static void badWayIsCounted() {
        DUE.sentence("5 ways found that were not good");
        ClauseSearch x = with(2, new int[] {1, 2});
        int[] head = (int[]) get(get(get(x, "search"), "watch"), "head");
        int[] kept = head.clone();
        Arrays.fill(head, -1);
        x.solve();
        DUE.is("behind a bad way", 1, () -> x.count(5));
        System.arraycopy(kept, 0, head, 0, head.length);
        DUE.is("a good way", "01", () -> Calls.leastWith(x));
        DUE.is("behind it", 1, () -> x.count(5));
    }

    /** Each of the variables 1 to 399 asks for the next, again and again; no call makes these clauses. */
    private static ClauseSearch withClausesInside(int clauses) {
        ClauseSearch x = Calls.withVariables(400);
        for (int i = 1; i <= clauses; i++) {
            int v = i % 399 + 1;
            int[] codes = {2 * v + 1, 2 * (v % 399 + 1)};
            call(get(x, "clauses"), "add", codes, 2, 0);
            call(get(x, "search"), "take", codes, 2);
        }
        return x;
    }

    private static void mostClauses() {
        DUE.sentence("CLAUSES stay for good (at most 4000).");
        ClauseSearch x = withClausesInside(3999);
        DUE.is("one is left", "400 3999 0 0 0 0", () -> Calls.counts(x));
        DUE.is("the 4000th", 4000, () -> Calls.addClause(x, 399));
        DUE.is("it holds, and those before it", Calls.onlyTrue(400, Calls.range(1, 399)),
                () -> Calls.leastWith(x));
        DUE.is("counts", "400 4000 0 1 0 0", () -> Calls.counts(x));
    }

    private static void clauseBehind4000() {
        DUE.sentence("there are 4000 CLAUSES: IndexOutOfBoundsException.");
        ClauseSearch x = withClausesInside(4000);
        DUE.state("an empty row is looked at first", x::clause);
        x.give(400);
        DUE.bounds("a row of 1", x::clause);
        DUE.is("the row is left", "400 4000 1 0 0 0", () -> Calls.counts(x));
        Calls.give(x, Calls.times(19, 399));
        DUE.bounds("a row of 20", x::clause);
        DUE.is("the row is left", "400 4000 20 0 0 0", () -> Calls.counts(x));
        DUE.is("it can be assumed", "1".repeat(400), () -> Calls.leastWith(x));
    }

    private static void refusedClauseLeavesTheWay() {
        DUE.sentence("A call that throws changes nothing.");
        ClauseSearch x = withClausesInside(4000);
        x.solve();
        x.give(400);
        DUE.bounds("behind a yes", x::clause);
        DUE.is("the way stands", "400 4000 1 1 0 0", () -> Calls.counts(x));
        DUE.is("it is the one before", "0".repeat(400), () -> Calls.way(x));
    }

    private static void refusedClauseBecomesNone() {
        DUE.sentence("A call that throws changes nothing.");
        ClauseSearch x = withClausesInside(4000);
        x.give(400);
        DUE.bounds("a row of 1", x::clause);
        DUE.is("it can be assumed", true, x::solve);
        DUE.is("its denial too", true, () -> Calls.solveWith(x, -400));
        DUE.is("and nothing asks for it", "0".repeat(400), () -> Calls.leastWith(x));
    }

    private static void objectIsSmall() {
        DUE.sentence("What a run makes is counted");
        DUE.is("a new object is small", true, () -> elements(new ClauseSearch()) < 20_000);
        ClauseSearch x = HardRunsTest.oddDegrees(8);
        x.solve();
        DUE.is("nor large behind a search that learns thousands of lessons", true, () -> elements(x) < 50_000);
    }

    /** All fields and elements that can be reached from an object. */
    private static long elements(Object from) {
        Set<Object> known = Collections.newSetFromMap(new IdentityHashMap<>());
        List<Object> open = new ArrayList<>(List.of(from));
        long sum = 0;
        while (!open.isEmpty()) {
            Object o = open.remove(open.size() - 1);
            if (!known.add(o)) {
                continue;
            }
            if (o.getClass().isArray()) {
                sum += Array.getLength(o);
                continue;
            }
            for (Field f : o.getClass().getDeclaredFields()) {
                if (!Modifier.isStatic(f.getModifiers())) {
                    sum++;
                    if (!f.getType().isPrimitive()) {
                        open.add(get(o, f.getName()));
                    }
                }
            }
        }
        return sum;
    }
}
