import java.io.ByteArrayOutputStream;
import java.io.OutputStream;
import java.net.URI;
import java.nio.file.Files;
import java.nio.file.Path;
import java.util.ArrayList;
import java.util.List;
import java.util.Map;
import java.util.Set;
import java.util.TreeMap;
import java.util.TreeSet;
import javax.tools.FileObject;
import javax.tools.ForwardingJavaFileManager;
import javax.tools.JavaCompiler;
import javax.tools.JavaFileManager;
import javax.tools.JavaFileObject;
import javax.tools.SimpleJavaFileObject;
import javax.tools.StandardJavaFileManager;
import javax.tools.StandardLocation;
import javax.tools.ToolProvider;

/**
 * Breaks the program in each way that src/test/mutants.txt tells, and wants the tests of the boundary
 * cases that are named there to fail by that; each of them has to be named at least once. Run from
 * the project's folder. Whoever changes a line of the program that a mutant changes, too, has to
 * change that mutant.
 */
public final class MutantsTest {
    private static final Path PROGRAM = Path.of("src/main/java/PaperlessRegistry.java");
    private static final Path MUTANTS = Path.of("src/test/mutants.txt");
    private static final Path TESTS = Path.of("src/test/java");

    private static final JavaCompiler COMPILER = ToolProvider.getSystemJavaCompiler();

    private static int wrong = 0;

    public static void main(String[] args) throws Exception {
        String program = inOneLine(Files.readString(PROGRAM));
        Map<String, byte[]> tests = compiled(program, TESTS.resolve("EdgesTest.java"));
        Subject whole = new Subject(tests);
        Set<String> unnamed = new TreeSet<>(whole.names());
        for (String test : whole.names()) {
            check(!whole.fails(test), "fails though nothing is broken: " + test);
        }
        Subject short512 = new Subject(with(tests, compiled(answeringOnly512Calls(program), null)));
        for (String test : short512.names()) {
            check(!short512.fails(test), "asks a room more than 512 times: " + test);
        }
        List<Mutant> mutants = mutants();
        for (Mutant mutant : mutants) {
            unnamed.removeAll(mutant.tests);
            look(mutant, program, tests);
        }
        check(unnamed.isEmpty(), "tests that no mutant names: " + unnamed);
        System.out.println(mutants.size() + " mutants, " + whole.names().size() + " tests, " + wrong + " faults");
        if (wrong != 0) {
            System.exit(1);
        }
    }

    private static void look(Mutant mutant, String program, Map<String, byte[]> tests) throws Exception {
        int at = program.indexOf(mutant.from);
        if (at < 0 || program.indexOf(mutant.from, at + 1) >= 0) {
            check(false, mutant.at + "is not in the program exactly once: " + mutant.from);
            return;
        }
        String broken = program.substring(0, at) + mutant.to + program.substring(at + mutant.from.length());
        Subject subject = new Subject(with(tests, compiled(broken, null)));
        for (String test : mutant.tests) {
            if (!subject.names().contains(test)) {
                check(false, mutant.at + "there is no test " + test);
            } else {
                check(subject.fails(test), mutant.at + test + " does not fail by: " + mutant.to);
            }
        }
    }

    /** Nothing is promised of what comes behind these, so no test may hang on it. */
    private static String answeringOnly512Calls(String program) {
        String counted = "if (++calls > 512) { throw new IllegalStateException(); }";
        return program.replaceAll("(public (int|long|double) \\w+\\([^{]*\\{)", "$1 " + counted)
                .replace("public PaperlessRegistry()", "private int calls = 0; public PaperlessRegistry()");
    }

    private static Map<String, byte[]> with(Map<String, byte[]> tests, Map<String, byte[]> program) {
        Map<String, byte[]> classes = new TreeMap<>(tests);
        classes.putAll(program);
        return classes;
    }

    private static void check(boolean holds, String otherwise) {
        if (!holds) {
            wrong++;
            System.out.println(otherwise);
        }
    }

    // ---- the mutants

    private record Mutant(String at, Set<String> tests, String from, String to) { }

    private static List<Mutant> mutants() throws Exception {
        List<Mutant> all = new ArrayList<>();
        List<String> lines = Files.readAllLines(MUTANTS);
        for (int n = 0; n < lines.size(); n++) {
            if (lines.get(n).isBlank() || lines.get(n).startsWith("#")) {
                continue;
            }
            String at = MUTANTS.getFileName() + ", line " + (n + 1) + ": ";
            if (n + 2 >= lines.size() || !lines.get(n + 1).startsWith("-") || !lines.get(n + 2).startsWith("+")) {
                throw new IllegalStateException(at + "no - and + behind it");
            }
            all.add(new Mutant(at, Set.of(lines.get(n).split(" ")), lines.get(n + 1).substring(1).trim(),
                    lines.get(n + 2).substring(1).trim()));
            n += 2;
        }
        return all;
    }

    /** So that mutants hang neither on how lines are broken, nor on comments. */
    private static String inOneLine(String program) {
        return program.replaceAll("(?s)/\\*.*?\\*/", "").replaceAll("//[^\n]*", "").replaceAll("\\s+", " ");
    }

    // ---- a program and the tests, compiled and loaded apart from all others

    private static Map<String, byte[]> compiled(String program, Path test) throws Exception {
        Map<String, byte[]> classes = new TreeMap<>();
        try (StandardJavaFileManager files = COMPILER.getStandardFileManager(null, null, null)) {
            files.setLocationFromPaths(StandardLocation.CLASS_PATH, List.of());
            files.setLocationFromPaths(StandardLocation.SOURCE_PATH, List.of(TESTS));
            List<JavaFileObject> units = new ArrayList<>(List.of(new Text(program)));
            if (test != null) {
                files.getJavaFileObjects(test).forEach(units::add);
            }
            JavaFileManager kept = new ForwardingJavaFileManager<JavaFileManager>(files) {
                @Override
                public JavaFileObject getJavaFileForOutput(Location to, String name, JavaFileObject.Kind kind,
                        FileObject from) {
                    return new Kept(name, classes);
                }
            };
            if (!COMPILER.getTask(null, kept, null, List.of("-proc:none"), null, units).call()) {
                throw new IllegalStateException("does not compile: " + program);
            }
        }
        return classes;
    }

    private static final class Text extends SimpleJavaFileObject {
        final String text;

        Text(String text) {
            super(URI.create("text:///" + PROGRAM.getFileName()), Kind.SOURCE);
            this.text = text;
        }

        @Override
        public CharSequence getCharContent(boolean ignoreErrors) {
            return text;
        }
    }

    private static final class Kept extends SimpleJavaFileObject {
        final String name;
        final Map<String, byte[]> classes;

        Kept(String name, Map<String, byte[]> classes) {
            super(URI.create("class:///" + name), Kind.CLASS);
            this.name = name;
            this.classes = classes;
        }

        @Override
        public OutputStream openOutputStream() {
            return new ByteArrayOutputStream() {
                @Override
                public void close() {
                    classes.put(name, toByteArray());
                }
            };
        }
    }

    /** A program with the tests that ask it, which know nothing of any other program. */
    private static final class Subject extends ClassLoader {
        final Map<String, byte[]> classes;
        final Class<?> tests;

        Subject(Map<String, byte[]> classes) throws ClassNotFoundException {
            super(ClassLoader.getPlatformClassLoader());
            this.classes = classes;
            tests = loadClass("EdgesTest");
        }

        @Override
        protected Class<?> findClass(String name) throws ClassNotFoundException {
            byte[] code = classes.get(name);
            if (code == null) {
                throw new ClassNotFoundException(name);
            }
            return defineClass(name, code, 0, code.length);
        }

        @SuppressWarnings("unchecked")
        Set<String> names() throws Exception {
            return (Set<String>) tests.getMethod("names").invoke(null);
        }

        boolean fails(String test) throws Exception {
            return (boolean) tests.getMethod("fails", String.class).invoke(null, test);
        }
    }
}
