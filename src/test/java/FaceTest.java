import java.lang.reflect.Constructor;
import java.lang.reflect.Executable;
import java.lang.reflect.Field;
import java.lang.reflect.Method;
import java.lang.reflect.Modifier;
import java.util.Arrays;
import java.util.TreeSet;

/** The face of the class: just the members that the document names. */
final class FaceTest {
    private static final String INDEX = "IndexOutOfBoundsException";
    private static final String ARGUMENT = "IllegalArgumentException";
    private static final String STATE = "IllegalStateException";
    private static final String ELEMENT = "NoSuchElementException";
    private static final String[] FACE = {
        "int addNode(int): " + ARGUMENT + " " + STATE,
        "int drain(int): " + INDEX + " " + STATE,
        "int fail(int): " + INDEX + " " + STATE,
        "int recover(int): " + INDEX + " " + STATE,
        "int setWeight(int, int): " + INDEX + " " + ARGUMENT,
        "int node(int, int): " + INDEX + " " + ARGUMENT,
        "int nodes(int): " + ARGUMENT,
        "int set(int, int): " + ARGUMENT,
        "int points():",
        "int point(int, int): " + INDEX + " " + ARGUMENT,
        "int successor(int): " + ARGUMENT + " " + ELEMENT,
        "int shard(int, int): " + INDEX + " " + ARGUMENT,
        "int route(int): " + ELEMENT,
        "int pending():",
        "int changedIf(int, int): " + INDEX + " " + ARGUMENT + " " + STATE,
        "int leastSlack(): " + ELEMENT + " " + STATE,
        "double greatestFill(): ArithmeticException",
        "int tick(int): " + ARGUMENT,
        "int moves():",
        "int move(int, int): " + INDEX + " " + ARGUMENT,
        "int forecast(): " + ELEMENT,
        "int statistic(int): " + ARGUMENT,
        "int events():",
        "int event(int, int): " + INDEX + " " + ARGUMENT,
        "int forget(int): " + INDEX,
        "int feed(char): " + STATE,
        "int perform(): UnsupportedOperationException",
        "int undo(): " + STATE,
        "int save():",
        "int restore(): " + STATE,
    };

    public static void main(String[] args) {
        Class<?> face = ShardRebalancer.class;
        Check.same("public and final", face.getModifiers(), Modifier.PUBLIC | Modifier.FINAL);
        Constructor<?>[] constructors = face.getDeclaredConstructors();
        Check.same("one constructor", constructors.length, 1);
        Check.same("it is public", constructors[0].getModifiers(), Modifier.PUBLIC);
        Check.same("it takes nothing", constructors[0].getParameterCount(), 0);
        for (Field field : face.getDeclaredFields()) {
            Check.same(field + " is private", field.getModifiers() & Modifier.PRIVATE,
                    Modifier.PRIVATE);
        }
        TreeSet<String> names = publicMethods(face);
        privateNames(face, names);
        for (Class<?> inside : face.getDeclaredClasses()) {
            Check.same(inside + " is static", Modifier.isStatic(inside.getModifiers()) ? 1 : 0, 1);
            privateNames(inside, names);
        }
        Check.finish("FaceTest");
    }

    private static TreeSet<String> publicMethods(Class<?> face) {
        TreeSet<String> found = new TreeSet<>();
        TreeSet<String> names = new TreeSet<>();
        for (Method method : face.getDeclaredMethods()) {
            if (Modifier.isPublic(method.getModifiers())) {
                found.add(signature(method));
                names.add(method.getName());
            } else {
                Check.same(method + " is private", method.getModifiers() & Modifier.PRIVATE,
                        Modifier.PRIVATE);
            }
        }
        Check.same("the face", String.join("\n", found),
                String.join("\n", new TreeSet<>(Arrays.asList(FACE))));
        return names;
    }

    private static void privateNames(Class<?> type, TreeSet<String> publicNames) {
        for (Method method : type.getDeclaredMethods()) {
            if (!Modifier.isPublic(method.getModifiers())) {
                Check.same(method + " has a name of its own",
                        publicNames.contains(method.getName()) ? 1 : 0, 0);
            }
        }
    }

    private static String signature(Method method) {
        String takes = names(method, method.getParameterTypes(), ", ");
        String thrown = names(method, method.getExceptionTypes(), " ");
        return method.getReturnType() + " " + method.getName() + "(" + takes + "):"
                + (thrown.isEmpty() ? "" : " " + thrown);
    }

    private static String names(Executable method, Class<?>[] types, String between) {
        StringBuilder text = new StringBuilder();
        for (Class<?> type : types) {
            text.append(text.length() == 0 ? "" : between).append(type.getSimpleName());
        }
        return text.toString();
    }
}
