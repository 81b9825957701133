import com.sun.source.tree.ClassTree;
import com.sun.source.tree.CompilationUnitTree;
import com.sun.source.tree.MethodInvocationTree;
import com.sun.source.tree.MethodTree;
import com.sun.source.tree.NewClassTree;
import com.sun.source.tree.Tree;
import com.sun.source.tree.VariableTree;
import com.sun.source.util.JavacTask;
import com.sun.source.util.TreePathScanner;
import com.sun.source.util.Trees;
import java.io.IOException;
import java.nio.file.Path;
import java.util.HashMap;
import java.util.HashSet;
import java.util.List;
import java.util.Map;
import java.util.Set;
import java.util.TreeSet;
import javax.lang.model.element.Element;
import javax.lang.model.element.ElementKind;
import javax.lang.model.element.Modifier;
import javax.tools.StandardJavaFileManager;
import javax.tools.ToolProvider;

/** The rules of LANGUAGE.md that count: lines, parameters, fields, classes, calls within calls, library calls. */
final class LanguageTest {
    private static final int MOST_LINES = 60;
    private static final int MOST_PARAMETERS = 7;
    private static final int MOST_FIELDS = 20;
    private static final int MOST_CLASSES = 12;
    private static final int MOST_CALLS_DEEP = 8;
    private static final Set<String> LIBRARY = Set.of("java.lang.Math.min", "java.lang.Math.max",
            "java.lang.System.arraycopy", "java.lang.Object.<init>", "java.lang.IllegalStateException.<init>",
            "java.lang.IllegalArgumentException.<init>", "java.lang.IndexOutOfBoundsException.<init>");

    private LanguageTest() {
    }

    static void run(Path program) throws IOException {
        var compiler = ToolProvider.getSystemJavaCompiler();
        try (StandardJavaFileManager files = compiler.getStandardFileManager(null, null, null)) {
            JavacTask task = (JavacTask) compiler.getTask(null, files, null, null, null, files.getJavaFileObjects(program));
            CompilationUnitTree unit = task.parse().iterator().next();
            task.analyze();
            Reader reader = new Reader(Trees.instance(task), unit);
            reader.scan(unit, null);
            reader.countAll();
        }
    }

    /** Reads the program's tree; a field's initialiser counts as a part of its class's constructor. */
    private static final class Reader extends TreePathScanner<Void, Void> {
        private final Trees trees;
        private final CompilationUnitTree unit;
        private final Map<Element, Set<Element>> calls = new HashMap<>();
        private final Set<String> faceNames = new TreeSet<>();
        private final Set<String> otherNames = new TreeSet<>();
        private final Set<Element> face = new HashSet<>();
        private int classes = 0;
        private Element caller = null;

        Reader(Trees trees, CompilationUnitTree unit) {
            this.trees = trees;
            this.unit = unit;
        }

        @Override
        public Void visitClass(ClassTree tree, Void unused) {
            classes++;
            long fields = tree.getMembers().stream()
                    .filter(m -> m.getKind() == Tree.Kind.VARIABLE)
                    .filter(m -> !((VariableTree) m).getModifiers().getFlags().contains(Modifier.STATIC))
                    .count();
            Check.holds("rule 11: " + tree.getSimpleName() + " has " + fields + " fields", fields <= MOST_FIELDS);
            Element outer = caller;
            Element made = trees.getElement(getCurrentPath());
            caller = made.getEnclosedElements().stream()
                    .filter(e -> e.getKind() == ElementKind.CONSTRUCTOR).findFirst().orElse(null);
            super.visitClass(tree, unused);
            caller = outer;
            return null;
        }

        @Override
        public Void visitMethod(MethodTree tree, Void unused) {
            Element outer = caller;
            caller = trees.getElement(getCurrentPath());
            String name = caller.getEnclosingElement().getSimpleName() + "." + tree.getName();
            int parameters = tree.getParameters().size();
            Check.holds("rule 11: " + name + " has " + parameters + " parameters", parameters <= MOST_PARAMETERS);
            long lines = line(trees.getSourcePositions().getEndPosition(unit, tree))
                    - line(trees.getSourcePositions().getStartPosition(unit, tree)) + 1;
            Check.holds("rule 11: " + name + " has " + lines + " lines", lines <= MOST_LINES);
            if (caller.getModifiers().contains(Modifier.PUBLIC)) {
                face.add(caller);
                faceNames.add(tree.getName().toString());
            } else {
                otherNames.add(tree.getName().toString());
            }
            super.visitMethod(tree, unused);
            caller = outer;
            return null;
        }

        private long line(long position) {
            return position < 0 ? 0 : unit.getLineMap().getLineNumber(position);
        }

        @Override
        public Void visitMethodInvocation(MethodInvocationTree tree, Void unused) {
            called(trees.getElement(getCurrentPath()));
            return super.visitMethodInvocation(tree, unused);
        }

        @Override
        public Void visitNewClass(NewClassTree tree, Void unused) {
            called(trees.getElement(getCurrentPath()));
            return super.visitNewClass(tree, unused);
        }

        private void called(Element method) {
            String name = method.getEnclosingElement() + "." + method.getSimpleName();
            boolean own = name.startsWith("ChannelLoom");
            Check.holds("rule 4: " + name + " is called", own || LIBRARY.contains(name));
            if (own) {
                calls.computeIfAbsent(caller, e -> new HashSet<>()).add(method);
            }
        }

        void countAll() {
            Check.holds("rule 11: there are " + classes + " classes", classes <= MOST_CLASSES);
            for (String name : otherNames) {
                Check.holds("rule 1: a method of no face is named " + name,
                        name.equals("<init>") || !faceNames.contains(name));
            }
            for (Element method : face) {
                int deep = depth(method, List.of());
                Check.holds("rule 11: calls go " + deep + " deep in " + method, deep <= MOST_CALLS_DEEP);
            }
        }

        /** The calls that stand open at once, this one among them. */
        private int depth(Element method, List<Element> open) {
            boolean again = open.contains(method);
            Check.holds("rule 8: " + method + " calls itself", !again);
            int deepest = 0;
            if (!again) {
                var within = new java.util.ArrayList<>(open);
                within.add(method);
                for (Element next : calls.getOrDefault(method, Set.of())) {
                    deepest = Math.max(deepest, depth(next, within));
                }
            }
            return deepest + 1;
        }
    }
}
