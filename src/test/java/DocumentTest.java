import java.io.IOException;
import java.lang.reflect.Method;
import java.nio.charset.StandardCharsets;
import java.nio.file.Files;
import java.nio.file.Path;
import java.util.ArrayList;
import java.util.Comparator;
import java.util.List;

/**
 * The boundary tests quote the document's own words, and no sentence of it is left without a test;
 * run it from the project's folder.
 */
final class DocumentTest {
    private static final Path DOCUMENT = Path.of("../shared/DOC.md");
    private static final int PROMISES = 31;
    private static final Class<?>[] TESTS = {NodesBoundaryTest.class, RingBoundaryTest.class,
        TargetsBoundaryTest.class, TicksBoundaryTest.class, EventsBoundaryTest.class,
        ScriptsBoundaryTest.class, HistoryBoundaryTest.class, DetailsBoundaryTest.class,
        RulesBoundaryTest.class};

    /** The sentences that name nothing to test. */
    private static final String[] WITHOUT_A_TEST = {
        "The class is not thread-safe.",
        "In a tick, the following is done.",
        "The constructor and the methods follow, a promise each: the signature, then what it "
            + "does.",
        "A rebalancer for a store of shards: nodes with weights on a hash ring, targets with "
            + "bounded loads, moves within a budget that take time, leases while nodes are down, "
            + "draining and failures in the middle of moves, forecasts by simulation, questions "
            + "of the form what if, events, statistics, scripts, and undo.",
    };

    public static void main(String[] args) throws IOException {
        String document = Files.readString(DOCUMENT, StandardCharsets.UTF_8);
        Check.same("the promises of the document", count(document, "\n## Promise "), PROMISES);
        String description = section(document, "What it is") + " "
                + section(document, "Description");
        for (Class<?> tests : TESTS) {
            for (Method test : Boundary.testsOf(tests)) {
                quotesTheDocument(document, description, test);
            }
        }
        List<String> said = new ArrayList<>(List.of(WITHOUT_A_TEST));
        for (int promise = 1; promise <= PROMISES; promise++) {
            said.addAll(saidFor(promise));
        }
        Check.same("sentences of the description without a test", rest(description, said), "");
        for (int promise = 1; promise <= PROMISES; promise++) {
            String text = section(document, "Promise " + promise + ":");
            Check.same("sentences of promise " + promise + " without a test",
                    rest(text, saidFor(promise)), "");
        }
        Check.finish("DocumentTest");
    }

    private static void quotesTheDocument(String document, String description, Method test) {
        Says says = test.getAnnotation(Says.class);
        Check.holds(test + " is for a promise", says.promise().length > 0);
        for (String sentence : says.sentence()) {
            for (int promise : says.promise()) {
                Check.holds("promise " + promise + " or the description says \"" + sentence
                        + "\", as " + test.getName() + " tells", description.contains(sentence)
                        || section(document, "Promise " + promise + ":").contains(sentence));
            }
        }
    }

    private static List<String> saidFor(int wanted) {
        List<String> said = new ArrayList<>();
        for (Class<?> tests : TESTS) {
            for (Method test : Boundary.testsOf(tests)) {
                Says says = test.getAnnotation(Says.class);
                for (int promise : says.promise()) {
                    if (promise == wanted) {
                        said.addAll(List.of(says.sentence()));
                    }
                }
            }
        }
        return said;
    }

    /** Returns the text of a section as one line, without signatures and headings of parts. */
    private static String section(String document, String title) {
        int start = document.indexOf("\n## " + title);
        if (start < 0) {
            return "";
        }
        int begin = document.indexOf('\n', start + 1);
        int end = document.indexOf("\n## ", begin);
        StringBuilder text = new StringBuilder();
        for (String line : document.substring(begin, end < 0 ? document.length() : end)
                .split("\n")) {
            boolean signature = line.startsWith("`") && line.contains("(");
            if (!signature && !line.startsWith("----")) {
                text.append(line.startsWith("- ") ? line.substring(2) : line).append(' ');
            }
        }
        return text.toString().replaceAll("\\s+", " ").trim();
    }

    /** Strikes out what tests quote, the longest first, and the titles of paragraphs. */
    private static String rest(String text, List<String> said) {
        List<String> sentences = new ArrayList<>(said);
        sentences.sort(Comparator.comparingInt(String::length).reversed());
        String left = text;
        for (String sentence : sentences) {
            left = left.replace(sentence, "");
        }
        return left.replaceAll("\\b[A-Z][a-z]+\\. ", "").trim().replaceAll("\\s+", " ");
    }

    private static int count(String text, String part) {
        return (text.length() - text.replace(part, "").length()) / part.length();
    }
}
