import com.sun.source.tree.ClassTree;
import com.sun.source.tree.CompilationUnitTree;
import com.sun.source.tree.MethodInvocationTree;
import com.sun.source.tree.MethodTree;
import com.sun.source.tree.NewClassTree;
import com.sun.source.tree.Tree;
import com.sun.source.util.JavacTask;
import com.sun.source.util.TreePathScanner;
import com.sun.source.util.Trees;
import java.io.File;
import java.util.ArrayList;
import java.util.LinkedHashMap;
import java.util.LinkedHashSet;
import java.util.List;
import java.util.Map;
import java.util.Set;
import javax.lang.model.element.Element;
import javax.lang.model.element.Modifier;
import javax.tools.JavaCompiler;
import javax.tools.StandardJavaFileManager;
import javax.tools.ToolProvider;

/**
 * Rule 11 of ../shared/LANGUAGE.md, held on the tree that the compiler itself makes of the program:
 * run from the project's folder. Stricter than the rule: the face's own method is counted too, the
 * library's calls are, and there is no recursion at all.
 */
public final class RuleElevenTest {
    private static final File PROGRAM = new File("src/main/java/PaperlessRegistry.java");
    private static final int DEEPEST = 8;
    private static final int MOST_PARAMETERS = 7;
    private static final int LONGEST_METHOD = 60;
    private static final int MOST_CLASSES = 12;
    private static final int MOST_FIELDS = 20;
    private static final int FACE_METHODS = 23;

    private static int wrong = 0;

    public static void main(String[] args) throws Exception {
        Program program = new Program();
        JavaCompiler compiler = ToolProvider.getSystemJavaCompiler();
        try (StandardJavaFileManager files = compiler.getStandardFileManager(null, null, null)) {
            JavacTask task = (JavacTask) compiler.getTask(null, files, null, List.of("-proc:none"), null,
                    files.getJavaFileObjects(PROGRAM));
            for (CompilationUnitTree unit : task.parse()) {
                task.analyze();
                new Reader(Trees.instance(task), program).scan(unit, null);
            }
        }
        check(program.classes <= MOST_CLASSES, program.classes + " classes");
        // A reader that found no face would find no deep call either.
        check(program.face.size() == FACE_METHODS + 1, "the face has " + program.face.size() + " methods");
        List<String> deepest = List.of();
        for (Element method : program.calls.keySet()) {
            List<String> chain = program.deepestFrom(method, new ArrayList<>());
            if (program.face.contains(method)) {
                check(chain.size() <= DEEPEST, chain.size() + " deep: " + String.join(", ", chain));
                deepest = chain.size() > deepest.size() ? chain : deepest;
            }
        }
        System.out.println("deepest, with the face's own method: " + deepest.size() + " " + deepest);
        System.out.println(wrong == 0 ? "rule 11 is kept" : wrong + " faults against rule 11");
        if (wrong != 0) {
            System.exit(1);
        }
    }

    /** The program's methods, and which others each of them calls. */
    private static final class Program {
        final Map<Element, Set<Element>> calls = new LinkedHashMap<>();
        final Set<Element> face = new LinkedHashSet<>();
        final Map<Element, List<String>> found = new LinkedHashMap<>();
        int classes = 0;

        List<String> deepestFrom(Element method, List<Element> open) {
            if (open.contains(method)) {
                check(false, "a recursion: " + open + " calls " + method);
                return List.of();
            }
            if (found.containsKey(method)) {
                return found.get(method);
            }
            open.add(method);
            List<String> longest = List.of();
            for (Element called : calls.getOrDefault(method, Set.of())) {
                List<String> rest = deepestFrom(called, open);
                longest = rest.size() > longest.size() ? rest : longest;
            }
            open.remove(method);
            List<String> chain = new ArrayList<>();
            chain.add(method.getEnclosingElement().getSimpleName() + "." + method);
            chain.addAll(longest);
            found.put(method, chain);
            return chain;
        }
    }

    private static final class Reader extends TreePathScanner<Void, Element> {
        final Trees trees;
        final Program program;

        Reader(Trees trees, Program program) {
            this.trees = trees;
            this.program = program;
        }

        @Override
        public Void visitClass(ClassTree tree, Element outer) {
            program.classes++;
            int fields = 0;
            for (Tree member : tree.getMembers()) {
                if (member.getKind() == Tree.Kind.VARIABLE && !isConstant(member)) {
                    fields++;
                }
            }
            check(fields <= MOST_FIELDS, fields + " fields in " + tree.getSimpleName());
            return super.visitClass(tree, outer);
        }

        private boolean isConstant(Tree field) {
            return trees.getElement(trees.getPath(getCurrentPath().getCompilationUnit(), field)).getModifiers()
                    .contains(Modifier.STATIC);
        }

        @Override
        public Void visitMethod(MethodTree tree, Element outer) {
            Element method = trees.getElement(getCurrentPath());
            program.calls.put(method, new LinkedHashSet<>());
            if (method.getModifiers().contains(Modifier.PUBLIC)) {
                program.face.add(method);
            }
            check(tree.getParameters().size() <= MOST_PARAMETERS, "many parameters: " + method);
            long lines = lineOf(trees.getSourcePositions().getEndPosition(unit(), tree))
                    - lineOf(trees.getSourcePositions().getStartPosition(unit(), tree)) + 1;
            check(lines <= LONGEST_METHOD, lines + " lines: " + method);
            return super.visitMethod(tree, method);
        }

        private CompilationUnitTree unit() {
            return getCurrentPath().getCompilationUnit();
        }

        private long lineOf(long position) {
            return position < 0 ? 0 : unit().getLineMap().getLineNumber(position);
        }

        @Override
        public Void visitMethodInvocation(MethodInvocationTree tree, Element caller) {
            noteCall(caller);
            return super.visitMethodInvocation(tree, caller);
        }

        @Override
        public Void visitNewClass(NewClassTree tree, Element caller) {
            noteCall(caller);
            return super.visitNewClass(tree, caller);
        }

        /** What a field's initialiser makes has no method that calls it. */
        private void noteCall(Element caller) {
            Element called = trees.getElement(getCurrentPath());
            check(called != null, "a call that could not be read");
            if (caller != null && called != null) {
                program.calls.get(caller).add(called);
            }
        }
    }

    private static void check(boolean holds, String otherwise) {
        if (!holds) {
            wrong++;
            System.out.println("LANGUAGE.md, rule 11: " + otherwise);
        }
    }
}
