import java.io.IOException;
import java.lang.reflect.Constructor;
import java.lang.reflect.Executable;
import java.lang.reflect.Field;
import java.lang.reflect.Method;
import java.lang.reflect.Modifier;
import java.nio.file.Files;
import java.nio.file.Path;
import java.util.ArrayList;
import java.util.List;
import java.util.TreeSet;
import java.util.regex.Matcher;
import java.util.regex.Pattern;

/**
 * The face of the class: just the members that the document names. Run it from the project's
 * folder.
 */
final class FaceTest {
    private static final Path DOCUMENT = Path.of("../shared/DOC.md");
    private static final int METHODS = 30;
    private static final Pattern SIGNATURE =
            Pattern.compile("(int|double) (\\w+)\\((.*?)\\)(?: throws (.*))?");

    public static void main(String[] args) throws IOException {
        List<String> due = documentedMethods();
        Class<?> face = ShardRebalancer.class;
        Check.same("public and final", face.getModifiers(), Modifier.PUBLIC | Modifier.FINAL);
        Constructor<?>[] constructors = face.getDeclaredConstructors();
        Check.same("one constructor", constructors.length, 1);
        Check.same("it is public", constructors[0].getModifiers(), Modifier.PUBLIC);
        Check.same("it takes nothing", constructors[0].getParameterCount(), 0);
        for (Field field : face.getDeclaredFields()) {
            Check.same(field + " is private", field.getModifiers() & Modifier.PRIVATE,
                    Modifier.PRIVATE);
        }
        TreeSet<String> names = publicMethods(face, due);
        privateNames(face, names);
        for (Class<?> inside : face.getDeclaredClasses()) {
            Check.same(inside + " is static", Modifier.isStatic(inside.getModifiers()) ? 1 : 0, 1);
            privateNames(inside, names);
        }
        Check.finish("FaceTest");
    }

    /** Reads the methods that the document's face shows; its promises must have the same ones. */
    private static List<String> documentedMethods() throws IOException {
        List<String> shown = new ArrayList<>();
        List<String> promised = new ArrayList<>();
        for (String line : Files.readAllLines(DOCUMENT)) {
            if (line.startsWith("    public ") && line.endsWith(";")) {
                shown.add(line.substring("    public ".length(), line.length() - 1));
            } else if (line.matches("`[^`]+`")) {
                promised.add(line.substring(1, line.length() - 1));
            }
        }
        Check.same("the promised signatures", String.join("\n", promised),
                String.join("\n", shown));
        List<String> methods = new ArrayList<>();
        for (String text : shown) {
            Matcher signature = SIGNATURE.matcher(text);
            if (signature.matches()) {
                methods.add(signature(signature));
            } else {
                Check.same("the constructor", text, "ShardRebalancer()");
            }
        }
        Check.same("methods of the document", methods.size(), METHODS);
        return methods;
    }

    private static String signature(Matcher shown) {
        String takes = shown.group(3).replaceAll(" \\w+(,|$)", "$1");
        String thrown = shown.group(4) == null ? "" : " " + shown.group(4).replace(",", "");
        return shown.group(1) + " " + shown.group(2) + "(" + takes + "):" + thrown;
    }

    private static TreeSet<String> publicMethods(Class<?> face, List<String> due) {
        TreeSet<String> found = new TreeSet<>();
        TreeSet<String> names = new TreeSet<>();
        for (Method method : face.getDeclaredMethods()) {
            if (Modifier.isPublic(method.getModifiers())) {
                found.add(signature(method));
                names.add(method.getName());
            } else {
                Check.same(method + " is private", method.getModifiers() & Modifier.PRIVATE,
                        Modifier.PRIVATE);
            }
        }
        Check.same("the face", String.join("\n", found),
                String.join("\n", new TreeSet<>(due)));
        return names;
    }

    private static void privateNames(Class<?> type, TreeSet<String> publicNames) {
        for (Method method : type.getDeclaredMethods()) {
            if (!Modifier.isPublic(method.getModifiers())) {
                Check.same(method + " has a name of its own",
                        publicNames.contains(method.getName()) ? 1 : 0, 0);
            }
        }
    }

    private static String signature(Method method) {
        String takes = names(method, method.getParameterTypes(), ", ");
        String thrown = names(method, method.getExceptionTypes(), " ");
        return method.getReturnType() + " " + method.getName() + "(" + takes + "):"
                + (thrown.isEmpty() ? "" : " " + thrown);
    }

    private static String names(Executable method, Class<?>[] types, String between) {
        StringBuilder text = new StringBuilder();
        for (Class<?> type : types) {
            text.append(text.length() == 0 ? "" : between).append(type.getSimpleName());
        }
        return text.toString();
    }
}
