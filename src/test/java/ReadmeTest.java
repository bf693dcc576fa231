import java.io.File;
import java.io.IOException;
import java.nio.charset.StandardCharsets;
import java.nio.file.Files;
import java.nio.file.Path;
import java.util.ArrayList;
import java.util.Comparator;
import java.util.LinkedHashMap;
import java.util.List;
import java.util.Map;
import java.util.TreeSet;
import java.util.regex.Matcher;
import java.util.regex.Pattern;
import java.util.stream.Stream;

/**
 * Does what README.md says, word for word, in a copy of the project, and holds its calls and what they
 * throw against ../shared/DOC.md: run from the project's folder.
 */
public final class ReadmeTest {
    private static final Path README = Path.of("README.md");
    private static final Path DOCUMENT = Path.of("../shared/DOC.md");
    private static final Path SHARED = Path.of("../shared");
    private static final Path TESTS = Path.of("src/test/java");
    /** What runs this test: done here, it would run itself without an end. */
    private static final String RUN_ALL = ".ci/run\n";

    private static int wrong = 0;

    public static void main(String[] args) throws Exception {
        String readme = Files.readString(README);
        callsAreTheDocuments(readme, Files.readString(DOCUMENT));
        testsAreNamed(readme);
        commandsHold(readme);
        System.out.println(wrong == 0 ? "README.md holds" : wrong + " faults in README.md");
        if (wrong != 0) {
            System.exit(1);
        }
    }

    // ---- the calls

    private static void callsAreTheDocuments(String readme, String document) {
        Map<String, String> due = new LinkedHashMap<>();
        for (String section : document.split("(?m)^## ")) {
            Matcher promise = Pattern.compile("Promise \\d+: \\w+\\s+`\\w+ (\\w+\\([^)]*\\))").matcher(section);
            if (promise.lookingAt()) {
                due.put(promise.group(1).replace("int ", ""), refusals(section));
            }
        }
        Map<String, String> told = new LinkedHashMap<>();
        Matcher row = Pattern.compile("(?m)^\\| `(\\w+\\([^)]*\\))` \\| [^|]+ \\| ([^|]+) \\|$").matcher(readme);
        while (row.find()) {
            check(told.put(row.group(1), row.group(2)) == null, "two rows of " + row.group(1));
        }
        check(new ArrayList<>(told.keySet()).equals(new ArrayList<>(due.keySet())),
                "the calls are " + told.keySet() + ", due are " + due.keySet());
        for (String call : due.keySet()) {
            String said = told.getOrDefault(call, "");
            check(said.equalsIgnoreCase(due.get(call)), call + " throws: " + said + ", due is " + due.get(call));
        }
    }

    private static String refusals(String section) {
        List<String> all = new ArrayList<>();
        section.lines().filter(line -> line.startsWith("Throws "))
                .forEach(line -> all.add(line.substring("Throws ".length())));
        return all.isEmpty() ? "nothing" : String.join("; ", all);
    }

    // ---- the tests

    private static void testsAreNamed(String readme) throws IOException {
        TreeSet<String> due = new TreeSet<>();
        try (Stream<Path> files = Files.list(TESTS)) {
            files.map(file -> file.getFileName().toString()).filter(name -> name.endsWith("Test.java"))
                    .forEach(name -> due.add(name.replace(".java", "")));
        }
        TreeSet<String> told = new TreeSet<>();
        Matcher item = Pattern.compile("(?m)^- `(\\w+Test)`: ").matcher(readme);
        while (item.find()) {
            told.add(item.group(1));
        }
        check(told.equals(due), "the tests are " + told + ", due are " + due);
    }

    // ---- what is to be done

    private record Block(String kind, String text) { }

    private static void commandsHold(String readme) throws Exception {
        Path room = Files.createTempDirectory("readme");
        try {
            Path project = copyOfProject(room);
            List<Block> blocks = blocks(readme);
            String printed = null;
            for (Block block : blocks) {
                switch (block.kind) {
                    case "java": save(project, block.text); break;
                    case "sh": printed = done(project, block.text); break;
                    case "text":
                        check(block.text.equals(printed), "printed is\n" + printed + "due is\n" + block.text);
                        break;
                    default: check(false, "a block of an unknown kind: " + block.kind);
                }
            }
            check(blocks.stream().anyMatch(block -> block.text.equals(RUN_ALL)), "all tests: no " + RUN_ALL);
            check(blocks.stream().filter(block -> block.kind.equals("sh")).count() == 4, "not four commands");
            check(blocks.stream().filter(block -> block.kind.equals("text")).count() == 1, "not one output");
        } finally {
            delete(room);
        }
    }

    private static List<Block> blocks(String readme) {
        List<Block> all = new ArrayList<>();
        Matcher block = Pattern.compile("(?ms)^```(\\w*)\n(.*?)^```$").matcher(readme);
        while (block.find()) {
            all.add(new Block(block.group(1), block.group(2)));
        }
        return all;
    }

    private static void save(Path project, String example) throws IOException {
        Matcher name = Pattern.compile("public final class (\\w+)").matcher(example);
        check(name.find(), "an example without a class");
        Files.writeString(project.resolve(name.group(1) + ".java"), example);
    }

    private static String done(Path project, String commands) throws Exception {
        if (commands.equals(RUN_ALL)) {
            check(Files.isExecutable(Path.of(commands.trim())), "can't be run: " + commands);
            return null;
        }
        File printed = project.resolve("../printed").toFile();
        Process shell = new ProcessBuilder("sh", "-e", "-c", commands).directory(project.toFile())
                .redirectErrorStream(true).redirectOutput(printed).start();
        int exit = shell.waitFor();
        String text = Files.readString(printed.toPath(), StandardCharsets.UTF_8);
        check(exit == 0, "ended with " + exit + ": " + commands + text);
        return text;
    }

    // ---- the copy

    private static Path copyOfProject(Path room) throws IOException {
        Path project = Files.createDirectory(room.resolve("project"));
        Files.createSymbolicLink(room.resolve("shared"), SHARED.toRealPath());
        try (Stream<Path> all = Files.walk(Path.of("src"))) {
            for (Path from : (Iterable<Path>) all::iterator) {
                Files.copy(from, project.resolve(from.toString()));
            }
        }
        return project;
    }

    private static void delete(Path room) throws IOException {
        try (Stream<Path> all = Files.walk(room)) {
            for (Path path : (Iterable<Path>) all.sorted(Comparator.reverseOrder())::iterator) {
                Files.delete(path);
            }
        }
    }

    private static void check(boolean holds, String otherwise) {
        if (!holds) {
            wrong++;
            System.out.println("README.md: " + otherwise);
        }
    }
}
