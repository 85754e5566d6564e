import java.lang.reflect.Constructor;
import java.lang.reflect.Field;
import java.lang.reflect.Method;
import java.lang.reflect.Modifier;
import java.util.Arrays;
import java.util.Set;
import java.util.TreeSet;

/** The face of the class: what the document lists and nothing else. */
public final class FaceTest {

    private static final String FACE = """
            int type(long) throws IllegalArgumentException, IllegalStateException
            int template(int) throws IndexOutOfBoundsException
            int address(int) throws IndexOutOfBoundsException, IllegalStateException
            int addresses()
            char cleaned(int, boolean, int) throws IndexOutOfBoundsException
            int apart(int, int, boolean) throws IndexOutOfBoundsException
            int likeness(int, int) throws IndexOutOfBoundsException
            int pairs(int) throws IllegalArgumentException
            boolean match(int, int) throws IndexOutOfBoundsException, IllegalStateException
            int group(int) throws IndexOutOfBoundsException
            int franking(int, int) throws IllegalArgumentException
            int run(int, int) throws IndexOutOfBoundsException, IllegalArgumentException, IllegalStateException
            int letters(int) throws IndexOutOfBoundsException
            int letter(int, int, int) throws IndexOutOfBoundsException, IllegalArgumentException
            char sign(int, int, int) throws IndexOutOfBoundsException
            int anew(int, int) throws IndexOutOfBoundsException
            int trouble(int, int, int, boolean) throws IndexOutOfBoundsException
            int post(int) throws IndexOutOfBoundsException, IllegalStateException
            int spent()
            int reasons(int) throws IndexOutOfBoundsException
            """;

    private static final Due due = new Due();

    public static void main(String[] args) {
        methods();
        membersBesides();
        due.end();
    }

    private static void methods() {
        Set<String> found = new TreeSet<>();
        Set<String> hidden = new TreeSet<>();
        for (Method method : MergePost.class.getDeclaredMethods()) {
            if (Modifier.isPrivate(method.getModifiers())) {
                hidden.add(method.getName());
            } else {
                found.add(told(method));
            }
        }
        due.is("the face", String.join("\n", found), String.join("\n", new TreeSet<>(Arrays.asList(FACE.split("\n")))));
        for (Class<?> inside : MergePost.class.getDeclaredClasses()) {
            for (Method method : inside.getDeclaredMethods()) {
                hidden.add(method.getName());
            }
        }
        for (Method method : MergePost.class.getMethods()) {
            due.is("a private " + method.getName(), hidden.contains(method.getName()) ? 1 : 0, 0);
        }
    }

    private static String told(Method method) {
        String types = names(method.getParameterTypes());
        String thrown = names(method.getExceptionTypes());
        return method.getReturnType().getSimpleName() + " " + method.getName() + "(" + types + ")"
                + (thrown.isEmpty() ? "" : " throws " + thrown);
    }

    private static String names(Class<?>[] types) {
        StringBuilder names = new StringBuilder();
        for (Class<?> type : types) {
            names.append(names.length() > 0 ? ", " : "").append(type.getSimpleName());
        }
        return names.toString();
    }

    private static void membersBesides() {
        due.is("public and final", MergePost.class.getModifiers(), Modifier.PUBLIC | Modifier.FINAL);
        Set<String> fields = new TreeSet<>();
        for (Field field : MergePost.class.getDeclaredFields()) {
            if (!Modifier.isPrivate(field.getModifiers())) {
                fields.add(Modifier.toString(field.getModifiers()) + " " + field.getType() + " " + field.getName());
            }
            boolean unchanged = !Modifier.isStatic(field.getModifiers()) || Modifier.isFinal(field.getModifiers());
            due.is("static and not final: " + field.getName(), unchanged ? 1 : 0, 1);
        }
        due.is("the constants", String.join(", ", fields), "public static final int COSTLY, public static final int DEEP, "
                + "public static final int LONG, public static final int MISSING, public static final int NONE");
        Constructor<?>[] constructors = MergePost.class.getDeclaredConstructors();
        due.is("constructors", constructors.length, 1);
        due.is("its parameters", constructors[0].getParameterCount(), 0);
        due.is("it is public", Modifier.isPublic(constructors[0].getModifiers()) ? 1 : 0, 1);
        for (Class<?> inside : MergePost.class.getDeclaredClasses()) {
            due.is("private: " + inside.getName(), Modifier.isPrivate(inside.getModifiers()) ? 1 : 0, 1);
        }
    }
}
