import java.lang.reflect.Constructor;
import java.lang.reflect.Field;
import java.lang.reflect.Method;
import java.lang.reflect.Modifier;
import java.util.Arrays;
import java.util.TreeSet;

/** The public face, to the letter of the document, and nothing beside it. */
public final class FaceTest {
    private static final String[] METHODS = {
        "int clear()",
        "int kind(int,int) IllegalArgumentException IllegalStateException",
        "int relation(int,int,int) IllegalArgumentException IllegalStateException",
        "int condition(int,int,int) IllegalArgumentException IllegalStateException",
        "int set(int,int,int) IllegalArgumentException IllegalStateException",
        "boolean drop(int,int,int) IllegalArgumentException IllegalStateException",
        "int empty(int) IllegalArgumentException IllegalStateException",
        "int pushed(int,int) IllegalArgumentException NoSuchElementException",
        "boolean has(int,int,int) IllegalArgumentException",
        "int next(int,int,int) IllegalArgumentException NoSuchElementException",
        "int back(int,int,int) IllegalArgumentException NoSuchElementException",
        "int count(int) IllegalArgumentException",
        "int length(int,int,int) IllegalArgumentException",
        "int route(int,int,int,int) IllegalArgumentException NoSuchElementException",
        "int leader(int,int) IllegalArgumentException IllegalStateException",
        "int differ(int,int) IllegalArgumentException",
        "int tally(int,int) ArrayIndexOutOfBoundsException",
        "int of(int) IllegalArgumentException",
        "int told(int,int) IllegalArgumentException",
    };

    public static void main(String[] args) {
        Due due = new Due();
        due.part("face");
        due.is(true, () -> Modifier.isFinal(RelationRows.class.getModifiers()));
        due.is(true, () -> Modifier.isPublic(RelationRows.class.getModifiers()));
        due.is(-1, () -> RelationRows.NONE);
        due.is(new TreeSet<>(Arrays.asList(METHODS)), FaceTest::openMethods);
        due.is("[NONE]", FaceTest::openFields);
        due.is("[public RelationRows(int)]", FaceTest::constructors);
        due.is("[]", FaceTest::namesBornTwice);
        due.is("[]", FaceTest::staticFieldsThatChange);
        due.end();
    }

    private static TreeSet<String> openMethods() {
        TreeSet<String> found = new TreeSet<>();
        for (Method m : RelationRows.class.getDeclaredMethods()) {
            if (!Modifier.isPrivate(m.getModifiers()) && !m.isSynthetic()) {
                found.add(signature(m));
            }
        }
        return found;
    }

    private static String signature(Method m) {
        StringBuilder text = new StringBuilder();
        text.append(m.getReturnType().getSimpleName()).append(' ').append(m.getName()).append('(');
        for (int k = 0; k < m.getParameterCount(); k++) {
            text.append(k == 0 ? "" : ",").append(m.getParameterTypes()[k].getSimpleName());
        }
        text.append(')');
        for (Class<?> thrown : m.getExceptionTypes()) {
            text.append(' ').append(thrown.getSimpleName());
        }
        return text.toString();
    }

    private static TreeSet<String> openFields() {
        TreeSet<String> found = new TreeSet<>();
        for (Field f : RelationRows.class.getDeclaredFields()) {
            if (!Modifier.isPrivate(f.getModifiers())) {
                found.add(f.getName());
            }
        }
        return found;
    }

    private static TreeSet<String> constructors() {
        TreeSet<String> found = new TreeSet<>();
        for (Constructor<?> c : RelationRows.class.getDeclaredConstructors()) {
            found.add(c.toString());
        }
        return found;
    }

    private static TreeSet<String> namesBornTwice() {
        TreeSet<String> open = new TreeSet<>();
        TreeSet<String> twice = new TreeSet<>();
        for (Method m : RelationRows.class.getMethods()) {
            open.add(m.getName());
        }
        for (Method m : RelationRows.class.getDeclaredMethods()) {
            if (Modifier.isPrivate(m.getModifiers()) && open.contains(m.getName())) {
                twice.add(m.getName());
            }
        }
        return twice;
    }

    private static TreeSet<String> staticFieldsThatChange() {
        TreeSet<String> found = new TreeSet<>();
        for (Field f : RelationRows.class.getDeclaredFields()) {
            if (Modifier.isStatic(f.getModifiers()) && !Modifier.isFinal(f.getModifiers())) {
                found.add(f.getName());
            }
        }
        return found;
    }
}
