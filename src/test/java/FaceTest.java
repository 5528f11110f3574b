import java.lang.reflect.Constructor;
import java.lang.reflect.Field;
import java.lang.reflect.Method;
import java.lang.reflect.Modifier;
import java.util.ArrayList;
import java.util.Arrays;
import java.util.List;
import java.util.TreeSet;

/** The public face: what the document lists and nothing else. */
public final class FaceTest {
    private static final String[] METHODS = {
        "int about(int, int) IllegalArgumentException, IndexOutOfBoundsException",
        "int at(int, boolean) IndexOutOfBoundsException",
        "int clock() ",
        "void corrupt(int, int, boolean) IndexOutOfBoundsException, IllegalArgumentException",
        "int create(int, int) IllegalArgumentException, IllegalStateException, UnsupportedOperationException",
        "void destroy(int) IllegalArgumentException, UnsupportedOperationException",
        "int event(int, int) IndexOutOfBoundsException, IllegalArgumentException",
        "boolean good(int) ",
        "int handleOf(int) IndexOutOfBoundsException",
        "void load() IllegalStateException",
        "int replay() IllegalStateException",
        "int save() ",
        "void shape(int, int, int) IllegalArgumentException, UnsupportedOperationException",
        "int size(boolean) ",
        "void speed(int, int, int) IllegalArgumentException, UnsupportedOperationException",
        "int tick(int) IllegalArgumentException, UnsupportedOperationException",
        "void timer(int, int) IllegalArgumentException, UnsupportedOperationException",
        "int under(int, int) IllegalArgumentException"};

    public static void main(String[] args) {
        methods();
        fieldsAndConstructors();
        Due.end();
    }

    private static void methods() {
        TreeSet<String> seen = new TreeSet<>();
        TreeSet<String> openNames = new TreeSet<>();
        TreeSet<String> privateNames = new TreeSet<>();
        for (Method method : TickArena.class.getDeclaredMethods()) {
            if (Modifier.isPrivate(method.getModifiers())) {
                privateNames.add(method.getName());
                continue;
            }
            Due.is(method + " is public", Modifier.isPublic(method.getModifiers()), true);
            Due.is(method + " is static", Modifier.isStatic(method.getModifiers()), false);
            openNames.add(method.getName());
            seen.add(method.getReturnType().getSimpleName() + " " + method.getName()
                    + "(" + names(method.getParameterTypes()) + ") " + names(method.getExceptionTypes()));
        }
        Due.is("the methods", seen, new TreeSet<>(Arrays.asList(METHODS)));
        privateNames.retainAll(openNames);
        Due.is("private methods with the name of a public one", privateNames, new TreeSet<String>());
    }

    private static String names(Class<?>[] types) {
        List<String> names = new ArrayList<>();
        for (Class<?> type : types) {
            names.add(type.getSimpleName());
        }
        return String.join(", ", names);
    }

    private static void fieldsAndConstructors() {
        int type = TickArena.class.getModifiers();
        Due.is("the class is public and final", Modifier.isPublic(type) && Modifier.isFinal(type), true);
        for (Field field : TickArena.class.getDeclaredFields()) {
            int m = field.getModifiers();
            boolean none = field.getName().equals("NONE");
            Due.is(field + " is private", Modifier.isPrivate(m), !none);
            Due.is(field + " is public", Modifier.isPublic(m), none);
            Due.is(field + " is final, if static", Modifier.isFinal(m) || !Modifier.isStatic(m), true);
        }
        Constructor<?>[] constructors = TickArena.class.getDeclaredConstructors();
        Due.is("how many constructors", constructors.length, 1);
        Due.is("parameters of the constructor", constructors[0].getParameterCount(), 0);
        Due.is("the constructor is public", Modifier.isPublic(constructors[0].getModifiers()), true);
    }
}
