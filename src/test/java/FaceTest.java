import java.lang.reflect.Constructor;
import java.lang.reflect.Field;
import java.lang.reflect.Method;
import java.lang.reflect.Modifier;
import java.util.Arrays;
import java.util.Set;
import java.util.TreeSet;

/** The class has the document's face, exceptions and all, and shows nothing else. */
public final class FaceTest {
    public static void main(String[] args) {
        Due due = new Due();
        Set<String> face = new TreeSet<>(Arrays.asList(
                "public ClauseSearch()",
                "public int ClauseSearch.variables(int)"
                        + " throws java.lang.IllegalArgumentException,java.lang.IndexOutOfBoundsException",
                "public int ClauseSearch.give(int)"
                        + " throws java.lang.IllegalArgumentException,java.lang.IndexOutOfBoundsException",
                "public int ClauseSearch.clause()"
                        + " throws java.lang.IllegalStateException,java.lang.IndexOutOfBoundsException",
                "public boolean ClauseSearch.solve()",
                "public boolean ClauseSearch.value(int)"
                        + " throws java.lang.IllegalArgumentException,java.lang.IllegalStateException",
                "public int ClauseSearch.count(int) throws java.lang.IllegalArgumentException"));
        due.is("what is not private", face, FaceTest::shown);
        due.is("the class", "public final", () -> Modifier.toString(ClauseSearch.class.getModifiers()));
        for (Class<?> inside : ClauseSearch.class.getDeclaredClasses()) {
            due.is(inside.getName(), "private static final", () -> Modifier.toString(inside.getModifiers()));
            due.is("names of the face in " + inside.getName(), Set.of(), () -> faceNamesIn(inside));
        }
        due.is("names of the face that are private", Set.of(), () -> faceNamesIn(ClauseSearch.class));
        due.end();
    }

    /** The methods of a class that are not of the face but bear a name of it. */
    private static Set<String> faceNamesIn(Class<?> of) {
        Set<String> names = Set.of("variables", "give", "clause", "solve", "value", "count");
        Set<String> found = new TreeSet<>();
        for (Method m : of.getDeclaredMethods()) {
            if (names.contains(m.getName()) && !Modifier.isPublic(m.getModifiers())) {
                found.add(m.toString());
            }
        }
        return found;
    }

    private static Set<String> shown() {
        Set<String> shown = new TreeSet<>();
        for (Constructor<?> c : ClauseSearch.class.getDeclaredConstructors()) {
            shown.add(c.toString());
        }
        for (Method m : ClauseSearch.class.getDeclaredMethods()) {
            if (!Modifier.isPrivate(m.getModifiers())) {
                shown.add(m.toString());
            }
        }
        for (Field f : ClauseSearch.class.getDeclaredFields()) {
            if (!Modifier.isPrivate(f.getModifiers())) {
                shown.add(f.toString());
            }
        }
        return shown;
    }
}
