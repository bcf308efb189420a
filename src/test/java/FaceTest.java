import java.lang.reflect.Constructor;
import java.lang.reflect.Field;
import java.lang.reflect.Method;
import java.lang.reflect.Modifier;
import java.util.Arrays;
import java.util.TreeSet;

/** The public face: the document's constants, constructor and methods, and no other member that is not private. */
public final class FaceTest {
    private static final String[] FIELDS = {
        "public static final int NONE", "public static final int WAITS", "public static final int NO_CODE",
    };

    private static final String[] METHODS = {
        "public boolean count(int,long) IndexOutOfBoundsException IllegalArgumentException",
        "public int make(int) IllegalArgumentException",
        "public int length(int) IndexOutOfBoundsException",
        "public long code(int) IndexOutOfBoundsException IllegalStateException",
        "public boolean given(int,int) IndexOutOfBoundsException IllegalArgumentException",
        "public boolean range(int,int,int,int) IndexOutOfBoundsException IllegalArgumentException",
        "public int check()",
        "public boolean feed(int) IllegalArgumentException",
        "public int read() IllegalStateException",
        "public long last() IllegalArgumentException",
        "public int waiting()",
        "public long sum()",
        "public int lengths(int)",
        "public void clear()",
    };

    public static void main(String[] args) {
        Due due = new Due();
        due.answer("NONE", BoundedCodes.NONE, -1);
        due.answer("WAITS", BoundedCodes.WAITS, -1);
        due.answer("NO_CODE", BoundedCodes.NO_CODE, -2);
        due.answer("the class", Modifier.toString(BoundedCodes.class.getModifiers()), "public final");
        due.answer("fields", fields(), joined(FIELDS));
        due.answer("methods", methods(), joined(METHODS));
        due.answer("constructors", constructors(), "[public (int)]");
        for (Class<?> inside : BoundedCodes.class.getDeclaredClasses()) {
            int modifiers = inside.getModifiers();
            due.answer(inside + " is static", Modifier.isStatic(modifiers), true);
            due.answer(inside + " is not public", Modifier.isPublic(modifiers), false);
        }
        privateNames(due);
        due.end();
    }

    private static String joined(String[] lines) {
        return new TreeSet<>(Arrays.asList(lines)).toString();
    }

    private static String fields() {
        TreeSet<String> all = new TreeSet<>();
        for (Field field : BoundedCodes.class.getDeclaredFields()) {
            if (!Modifier.isPrivate(field.getModifiers())) {
                all.add(Modifier.toString(field.getModifiers()) + " " + field.getType() + " " + field.getName());
            }
        }
        return all.toString();
    }

    private static String methods() {
        TreeSet<String> all = new TreeSet<>();
        for (Method method : BoundedCodes.class.getDeclaredMethods()) {
            if (!Modifier.isPrivate(method.getModifiers())) {
                all.add(Modifier.toString(method.getModifiers()) + " " + method.getReturnType() + " "
                        + method.getName() + types(method.getParameterTypes()) + thrown(method));
            }
        }
        return all.toString();
    }

    private static String constructors() {
        TreeSet<String> all = new TreeSet<>();
        for (Constructor<?> constructor : BoundedCodes.class.getDeclaredConstructors()) {
            all.add(Modifier.toString(constructor.getModifiers()) + " " + types(constructor.getParameterTypes()));
        }
        return all.toString();
    }

    private static String types(Class<?>[] types) {
        StringBuilder all = new StringBuilder("(");
        for (Class<?> type : types) {
            all.append(all.length() == 1 ? "" : ",").append(type);
        }
        return all.append(")").toString();
    }

    private static String thrown(Method method) {
        StringBuilder all = new StringBuilder();
        for (Class<?> type : method.getExceptionTypes()) {
            all.append(" ").append(type.getSimpleName());
        }
        return all.toString();
    }

    private static void privateNames(Due due) {
        TreeSet<String> faceNames = new TreeSet<>();
        for (Method method : BoundedCodes.class.getMethods()) {
            faceNames.add(method.getName());
        }
        for (Method method : BoundedCodes.class.getDeclaredMethods()) {
            if (Modifier.isPrivate(method.getModifiers())) {
                due.answer("private " + method.getName() + " bears a public name",
                        faceNames.contains(method.getName()), false);
            }
        }
    }
}
