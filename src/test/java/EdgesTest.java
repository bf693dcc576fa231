import java.lang.reflect.Method;
import java.nio.file.Files;
import java.nio.file.Path;
import java.util.ArrayList;
import java.util.List;
import java.util.Set;
import java.util.TreeMap;
import java.util.TreeSet;

/**
 * Runs the tests of boundary cases, and holds the sentences that they quote against
 * ../shared/DOC.md: run from the project's folder. MutantsTest shows that each test fails when its
 * sentence is broken.
 */
public final class EdgesTest {
    private static final Path DOCUMENT = Path.of("../shared/DOC.md");
    private static final int PROMISES = 24;

    public static void main(String[] args) throws Exception {
        List<String> wrong = new ArrayList<>();
        TreeMap<String, Method> tests = tests();
        for (Method test : tests.values()) {
            for (String fault : Edges.faultsOf(test)) {
                wrong.add(test.getName() + ", " + fault);
            }
        }
        wrong.addAll(notInTheDocument(tests));
        wrong.forEach(System.out::println);
        System.out.println(tests.size() + " tests of edges, " + wrong.size() + " faults");
        if (!wrong.isEmpty()) {
            System.exit(1);
        }
    }

    /** For MutantsTest: the names of all tests. */
    public static Set<String> names() {
        return tests().keySet();
    }

    /** For MutantsTest: whether the test of that name finds a fault. */
    public static boolean fails(String name) {
        return !Edges.faultsOf(tests().get(name)).isEmpty();
    }

    private static TreeMap<String, Method> tests() {
        TreeMap<String, Method> tests = new TreeMap<>();
        for (Class<?> part : List.of(TermsEdges.class, PromisesEdges.class)) {
            for (Method m : part.getDeclaredMethods()) {
                if (m.isAnnotationPresent(Edges.Says.class) && tests.put(m.getName(), m) != null) {
                    throw new AssertionError("two tests of one name: " + m.getName());
                }
            }
        }
        return tests;
    }

    /** Quotes that the document does not have, and refusals and promises of it that no test quotes. */
    private static List<String> notInTheDocument(TreeMap<String, Method> tests) throws Exception {
        List<String> wrong = new ArrayList<>();
        TreeMap<String, String> sections = sections();
        Set<String> quoted = new TreeSet<>();
        for (Method test : tests.values()) {
            Edges.Says says = test.getAnnotation(Edges.Says.class);
            if (!sections.getOrDefault(says.in(), "").replaceAll("\\s+", " ").contains(says.value())) {
                wrong.add(test.getName() + ": the document does not say so in " + says.in());
            }
            quoted.add(says.in());
            quoted.add(says.in() + ": " + says.value());
        }
        for (int n = 1; n <= PROMISES; n++) {
            String section = "Promise " + n;
            if (!quoted.contains(section)) {
                wrong.add("no test of " + section);
            }
            sections.getOrDefault(section, "").lines().filter(line -> line.startsWith("Throws"))
                    .filter(line -> !quoted.contains(section + ": " + line))
                    .forEach(line -> wrong.add("no test of " + section + ": " + line));
        }
        return wrong;
    }

    /** The document's sections, by what stands ahead of the colon in their titles. */
    private static TreeMap<String, String> sections() throws Exception {
        TreeMap<String, String> sections = new TreeMap<>();
        for (String section : Files.readString(DOCUMENT).split("(?m)^## ")) {
            sections.put(section.lines().findFirst().orElse("").replaceAll(":.*", ""), section);
        }
        return sections;
    }
}
