import java.io.IOException;
import java.lang.reflect.InvocationTargetException;
import java.lang.reflect.Method;
import java.lang.reflect.Modifier;
import java.net.URL;
import java.net.URLClassLoader;
import java.nio.file.Files;
import java.nio.file.Path;
import java.util.ArrayList;
import java.util.List;
import java.util.Set;
import java.util.TreeSet;
import java.util.regex.Matcher;
import java.util.regex.Pattern;
import java.util.stream.Stream;
import javax.tools.ToolProvider;

/**
 * What README.md says holds: its examples answer what stands behind them, its table of refusals is
 * the document's, and its commands run single tests. Run it from the project's folder.
 */
final class ReadmeTest {
    private static final Path README = Path.of("README.md");
    private static final Path DOCUMENT = Path.of("../shared/DOC.md");
    private static final Path SHARED_TESTS = Path.of("../shared/tests");
    private static final Path FOLDER = Path.of("build/readme");
    private static final int GROUPS = 6;

    /** A call as a statement, and behind it its answer or its exception, and perhaps a remark. */
    private static final Pattern CALL = Pattern.compile("(store\\.(\\w+)\\(.*?\\)); +// "
            + "(?:throws (\\w+Exception)|(-?\\d+(?:\\.\\d+)?))(: .+)?");
    private static final Pattern REFUSAL = Pattern.compile("Throws (`\\w+` if .+)");
    private static final Pattern NAMED_CALL = Pattern.compile("`(\\w+)\\(");
    private static final Pattern LINK = Pattern.compile("\\]\\(([^)]+)\\)");

    public static void main(String[] args) throws Exception {
        String readme = Files.readString(README);
        runExamples(blocks(readme, "java"));
        groupsShowEveryMethod(readme);
        refusalsAreTheDocuments(readme);
        commandsRun(blocks(readme, "sh"));
        linksLead(readme);
        Check.finish("ReadmeTest");
    }

    private static void runExamples(List<String> examples) throws Exception {
        Files.createDirectories(FOLDER);
        Path source = FOLDER.resolve("Examples.java");
        Files.writeString(source, program(examples));
        int code = ToolProvider.getSystemJavaCompiler().run(null, null, null, "-cp",
                System.getProperty("java.class.path"), "-d", FOLDER.toString(),
                source.toString());
        Check.same("the compiler, for the examples,", code, 0);
        if (code != 0) {
            return;
        }
        try (URLClassLoader loader = new URLClassLoader(new URL[] {FOLDER.toUri().toURL()})) {
            Class<?> compiled = loader.loadClass("Examples");
            for (int i = 0; i < examples.size(); i++) {
                Check.about("example " + (i + 1) + ": ");
                compare(examples.get(i), answers(compiled, i));
            }
        }
        Check.about("");
    }

    /** Writes a program with a method for each example, which adds what each call answers. */
    private static String program(List<String> examples) {
        StringBuilder text = new StringBuilder("public final class Examples {\n");
        for (int i = 0; i < examples.size(); i++) {
            text.append("public static void example").append(i)
                    .append("(java.util.List<String> answers) {\n");
            for (String line : examples.get(i).split("\n")) {
                Matcher call = CALL.matcher(line);
                text.append(!call.matches() ? line : "try { answers.add(String.valueOf("
                        + call.group(1) + ")); } catch (RuntimeException e) { "
                        + "answers.add(e.getClass().getSimpleName()); }").append('\n');
            }
            text.append("}\n");
        }
        return text.append("}\n").toString();
    }

    private static List<String> answers(Class<?> compiled, int example) throws Exception {
        List<String> answers = new ArrayList<>();
        try {
            compiled.getMethod("example" + example, List.class).invoke(null, answers);
        } catch (InvocationTargetException e) {
            answers.add("threw " + e.getCause());
        }
        return answers;
    }

    private static void compare(String example, List<String> answers) {
        int next = 0;
        for (String line : example.split("\n")) {
            Matcher call = CALL.matcher(line);
            if (call.matches()) {
                String due = call.group(3) != null ? call.group(3) : call.group(4);
                Check.same(line, next < answers.size() ? answers.get(next) : "nothing", due);
                next++;
            } else {
                Check.holds(line + " (has it no call and no remark that nobody checks)",
                        !line.startsWith("store.") && !line.contains("//"));
            }
        }
        Check.same("answers", answers.size(), next);
    }

    /** Each group has an example with all of its calls, and each method belongs to one group. */
    private static void groupsShowEveryMethod(String readme) {
        String[] groups = section(readme, "## Use\n").split("\n### ");
        Check.same("groups of methods", groups.length - 1, GROUPS);
        List<String> told = new ArrayList<>();
        for (int i = 1; i < groups.length; i++) {
            List<String> examples = blocks(groups[i], "java");
            Check.same("examples in group " + i, examples.size(), 1);
            Set<String> shown = shown(String.join("\n", examples));
            for (String name : named(groups[i])) {
                told.add(name);
                Check.holds("the example of group " + i + " shows " + name, shown.contains(name));
            }
        }
        Set<String> face = new TreeSet<>();
        for (Method method : ShardRebalancer.class.getDeclaredMethods()) {
            if (Modifier.isPublic(method.getModifiers())) {
                face.add(method.getName());
            }
        }
        Check.same("the methods of all groups", new TreeSet<>(told).toString(), face.toString());
        Check.same("the number of the methods of all groups", told.size(), face.size());
    }

    /** Finds the calls that the first column of a table names. */
    private static List<String> named(String text) {
        List<String> names = new ArrayList<>();
        for (String[] row : rows(text)) {
            Matcher call = NAMED_CALL.matcher(row[0]);
            while (call.find()) {
                names.add(call.group(1));
            }
        }
        return names;
    }

    private static Set<String> shown(String example) {
        Set<String> names = new TreeSet<>();
        for (String line : example.split("\n")) {
            Matcher call = CALL.matcher(line);
            if (call.matches()) {
                names.add(call.group(2));
            }
        }
        return names;
    }

    private static void refusalsAreTheDocuments(String readme) throws IOException {
        List<String> due = new ArrayList<>();
        Set<String> kinds = new TreeSet<>();
        for (String promise : Files.readString(DOCUMENT).split("\n## Promise \\d+: ")) {
            List<String> refusals = new ArrayList<>();
            for (String line : promise.split("\n")) {
                Matcher refusal = REFUSAL.matcher(line);
                if (refusal.matches()) {
                    refusals.add(refusal.group(1));
                    kinds.add(line.split("`")[1]);
                }
            }
            if (!refusals.isEmpty()) {
                due.add("`" + promise.split("\n")[0] + "`: " + String.join("; ", refusals));
            }
        }
        String refused = section(readme, "## What is refused\n");
        List<String> said = new ArrayList<>();
        for (String[] row : rows(refused)) {
            said.add(row[0] + ": " + row[1]);
        }
        Check.holds("the document refuses something", !due.isEmpty());
        Check.same("the refusals", String.join("\n", said), String.join("\n", due));
        String examples = String.join("\n", blocks(refused, "java"));
        for (String kind : kinds) {
            Check.holds("an example of " + kind, examples.contains("throws " + kind));
        }
    }

    /** Runs the commands for a test of the project, and those for one under ../shared. */
    private static void commandsRun(List<String> commands) throws Exception {
        Check.same("commands that run a single test", commands.size(), 2);
        if (commands.size() != 2) {
            return;
        }
        run(commands.get(0).replace("NAME", "NodesTest"));
        try (Stream<Path> tests = Files.list(SHARED_TESTS)) {
            String file = tests.map(test -> test.getFileName().toString())
                    .filter(name -> name.endsWith(".java")).sorted().findFirst().orElse("");
            run(commands.get(1).replace("NAME", file.replace(".java", "")));
        }
    }

    private static void run(String command) throws Exception {
        Path output = FOLDER.resolve("output");
        int code = new ProcessBuilder("sh", "-e", "-c", command).redirectErrorStream(true)
                .redirectOutput(output.toFile()).start().waitFor();
        Check.same(command + Files.readString(output), code, 0);
    }

    private static void linksLead(String readme) {
        Matcher link = LINK.matcher(readme);
        while (link.find()) {
            Check.holds(link.group(1) + " is there", Files.exists(Path.of(link.group(1))));
        }
    }

    /** Returns the code blocks of a language. */
    private static List<String> blocks(String text, String language) {
        List<String> found = new ArrayList<>();
        String[] parts = text.split("```");
        for (int i = 1; i < parts.length; i += 2) {
            if (parts[i].startsWith(language + "\n")) {
                found.add(parts[i].substring(language.length() + 1));
            }
        }
        return found;
    }

    /** Returns the two columns of each row of the tables, without their heads. */
    private static List<String[]> rows(String text) {
        List<String[]> found = new ArrayList<>();
        for (String line : text.split("\n")) {
            if (line.startsWith("| `")) {
                String[] columns = line.substring(2, line.length() - 2).split(" \\| ");
                Check.same("columns in " + line, columns.length, 2);
                found.add(columns);
            }
        }
        return found;
    }

    private static String section(String text, String heading) {
        int start = text.indexOf("\n" + heading);
        Check.holds("there is " + heading, start >= 0);
        int end = text.indexOf("\n## ", start + 1);
        return text.substring(Math.max(start, 0), end < 0 ? text.length() : end);
    }
}
