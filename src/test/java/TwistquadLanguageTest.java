import com.sun.source.tree.BinaryTree;
import com.sun.source.tree.BlockTree;
import com.sun.source.tree.ClassTree;
import com.sun.source.tree.CompilationUnitTree;
import com.sun.source.tree.CompoundAssignmentTree;
import com.sun.source.tree.ExpressionTree;
import com.sun.source.tree.LineMap;
import com.sun.source.tree.LiteralTree;
import com.sun.source.tree.MethodInvocationTree;
import com.sun.source.tree.MethodTree;
import com.sun.source.tree.NewClassTree;
import com.sun.source.tree.ThrowTree;
import com.sun.source.tree.Tree;
import com.sun.source.tree.TryTree;
import com.sun.source.util.JavacTask;
import com.sun.source.util.SourcePositions;
import com.sun.source.util.TreePath;
import com.sun.source.util.TreePathScanner;
import com.sun.source.util.Trees;
import java.io.File;
import java.io.IOException;
import java.util.ArrayList;
import java.util.EnumSet;
import java.util.HashMap;
import java.util.HashSet;
import java.util.LinkedHashMap;
import java.util.LinkedHashSet;
import java.util.List;
import java.util.Map;
import java.util.Set;
import javax.lang.model.element.Element;
import javax.lang.model.element.ElementKind;
import javax.lang.model.element.ExecutableElement;
import javax.lang.model.element.Modifier;
import javax.lang.model.element.TypeElement;
import javax.lang.model.element.VariableElement;
import javax.lang.model.type.TypeMirror;
import javax.tools.JavaCompiler;
import javax.tools.StandardJavaFileManager;
import javax.tools.ToolProvider;

/**
 * The rules of ../shared/LANGUAGE.md that the compiler's own view of the class can tell: its trees,
 * and which method calls which. It reads the class from the project's folder, where .ci/run is at home.
 */
public final class TwistquadLanguageTest extends Checks {
    private static final File SOURCE = new File("src/main/java/Twistquad.java");

    private static final int MOST_PARAMETERS = 7;
    private static final int MOST_LINES = 60;
    private static final int MOST_CALLS_DEEP = 8;
    private static final int MOST_CLASSES = 12;
    private static final int MOST_FIELDS = 20;

    private static final Set<String> LIBRARY = Set.of(
            "java.lang.String", "java.lang.StringBuilder", "java.lang.Integer", "java.lang.Long",
            "java.lang.Math", "java.util.ArrayList", "java.util.List", "java.util.Arrays",
            "java.lang.System");

    private static final Set<String> EXCEPTIONS = Set.of(
            "java.lang.IllegalStateException", "java.lang.IllegalArgumentException",
            "java.lang.IndexOutOfBoundsException", "java.lang.ArithmeticException",
            "java.lang.UnsupportedOperationException", "java.util.NoSuchElementException",
            "java.lang.RuntimeException");

    private static final Set<Tree.Kind> LEFT_OUT = EnumSet.of(
            Tree.Kind.LAMBDA_EXPRESSION, Tree.Kind.MEMBER_REFERENCE, Tree.Kind.ASSERT,
            Tree.Kind.SYNCHRONIZED, Tree.Kind.PACKAGE);

    public static void main(String[] args) throws IOException {
        JavaCompiler compiler = ToolProvider.getSystemJavaCompiler();
        try (StandardJavaFileManager files = compiler.getStandardFileManager(null, null, null)) {
            JavacTask task = (JavacTask) compiler.getTask(null, files, null, List.of("-proc:none"),
                    null, files.getJavaFileObjects(SOURCE));
            CompilationUnitTree unit = task.parse().iterator().next();
            task.analyze();
            Reading reading = new Reading(unit, Trees.instance(task));
            reading.scan(unit, null);
            checkRules(reading);
        }
        end("TwistquadLanguageTest");
    }

    private static void checkRules(Reading reading) {
        sentence("rule 1: one public class, those inside it private or package-visible, and static",
                () -> checkClasses(reading));
        sentence("rule 1: no private method bears the name of a public one",
                () -> checkNames(reading));
        sentence("rules 2 and 6: no package, lambda, method reference, assert, synchronized",
                () -> checkKinds(reading));
        sentence("rule 6: no finally, no try with resources",
                () -> check("such tries", reading.triesLeftOut, 0));
        sentence("rule 4: the library: only what stands there", () -> checkLibrary(reading));
        sentence("rule 5: static fields are final, no static initialiser block",
                () -> checkStatics(reading));
        sentence("rule 6: throw new E() or E(\"a written text\"), and none in a constructor",
                () -> checkThrowStatements(reading));
        sentence("rule 8: methods that call one another are private", () -> checkRecursion(reading));
        sentence("rule 10: texts are not joined by +", () -> check("joins", reading.joins, 0));
        sentence("rule 11: at most seven parameters, some sixty lines a method",
                () -> checkSizes(reading));
        sentence("rule 11: calls that are no recursion go at most eight deep",
                () -> checkDepths(reading));
        sentence("rule 11: some twelve classes, a class some twenty fields beside its constants",
                () -> checkCounts(reading));
    }

    private static void checkClasses(Reading reading) {
        int open = 0;
        for (TypeElement each : reading.classes) {
            boolean isPublic = each.getModifiers().contains(Modifier.PUBLIC);
            open += isPublic ? 1 : 0;
            checkThat(each + " is no protected class",
                    !each.getModifiers().contains(Modifier.PROTECTED));
            checkThat(each + " is static, if it stands inside",
                    isPublic || each.getModifiers().contains(Modifier.STATIC));
        }
        check("public classes", open, 1);
    }

    private static void checkNames(Reading reading) {
        Set<String> face = new HashSet<>();
        for (Element method : reading.methods.keySet()) {
            if (method.getModifiers().contains(Modifier.PUBLIC)) {
                face.add(method.getSimpleName().toString());
            }
        }
        for (Element method : reading.methods.keySet()) {
            checkThat(tell(method) + " has a name of its own",
                    !method.getModifiers().contains(Modifier.PRIVATE)
                            || !face.contains(method.getSimpleName().toString()));
        }
    }

    private static void checkKinds(Reading reading) {
        for (Tree.Kind kind : LEFT_OUT) {
            checkThat("no " + kind, !reading.kinds.contains(kind));
        }
    }

    private static void checkLibrary(Reading reading) {
        for (Element each : reading.library) {
            String owner = each.getEnclosingElement().toString();
            checkThat(owner + "." + each.getSimpleName() + " stands in the library",
                    LIBRARY.contains(owner) && !each.getSimpleName().toString().endsWith("Exact"));
        }
        checkThat("the system only copies arrays", reading.library.stream()
                .filter(each -> each.getEnclosingElement().toString().equals("java.lang.System"))
                .allMatch(each -> each.getSimpleName().contentEquals("arraycopy")));
    }

    private static void checkStatics(Reading reading) {
        check("static initialiser blocks", reading.staticBlocks, 0);
        for (VariableElement field : reading.fields) {
            if (field.getModifiers().contains(Modifier.STATIC)) {
                checkThat(field + " is final", field.getModifiers().contains(Modifier.FINAL));
            }
        }
    }

    private static void checkThrowStatements(Reading reading) {
        check("throws in a constructor", reading.throwsInConstructors, 0);
        for (ThrowTree each : reading.throwTrees) {
            checkThat(each + " throws a new exception of the list, with a written text or none",
                    each.getExpression() instanceof NewClassTree
                            && isPlainException(reading, (NewClassTree) each.getExpression()));
        }
    }

    private static boolean isPlainException(Reading reading, NewClassTree made) {
        List<? extends ExpressionTree> arguments = made.getArguments();
        return EXCEPTIONS.contains(String.valueOf(reading.typesMade.get(made)))
                && (arguments.isEmpty()
                        || arguments.size() == 1 && arguments.get(0) instanceof LiteralTree);
    }

    private static void checkRecursion(Reading reading) {
        for (Element method : reading.methods.keySet()) {
            boolean comesBack = reading.reachedFrom(method).contains(method);
            checkThat(tell(method) + " is private, or never comes back to itself",
                    !comesBack || method.getModifiers().contains(Modifier.PRIVATE));
        }
    }

    private static void checkSizes(Reading reading) {
        for (Map.Entry<Element, MethodTree> each : reading.methods.entrySet()) {
            String name = tell(each.getKey());
            checkThat(name + " has at most seven parameters",
                    each.getValue().getParameters().size() <= MOST_PARAMETERS);
            checkThat(name + " is short", reading.linesOf(each.getValue()) <= MOST_LINES);
        }
    }

    private static void checkDepths(Reading reading) {
        for (Element method : reading.methods.keySet()) {
            checkThat("calls from " + tell(method) + " go at most eight deep",
                    reading.depthFrom(method, new HashSet<>()) <= MOST_CALLS_DEEP);
        }
    }

    private static void checkCounts(Reading reading) {
        checkThat("some twelve classes", reading.classes.size() <= MOST_CLASSES);
        Map<Element, Integer> counts = new HashMap<>();
        for (VariableElement field : reading.fields) {
            if (!field.getModifiers().contains(Modifier.STATIC)) {
                counts.merge(field.getEnclosingElement(), 1, Integer::sum);
            }
        }
        for (Map.Entry<Element, Integer> each : counts.entrySet()) {
            checkThat(each.getKey() + " has some twenty fields", each.getValue() <= MOST_FIELDS);
        }
    }

    private static String tell(Element method) {
        return method.getEnclosingElement().getSimpleName() + "." + method.getSimpleName();
    }

    /** What the rules ask for, gathered from the trees of the file. */
    private static final class Reading extends TreePathScanner<Void, Void> {
        final List<TypeElement> classes = new ArrayList<>();
        final List<VariableElement> fields = new ArrayList<>();
        final Map<Element, MethodTree> methods = new LinkedHashMap<>();
        final Map<Element, Set<Element>> calls = new HashMap<>();
        final Set<Element> library = new LinkedHashSet<>();
        final Set<Tree.Kind> kinds = EnumSet.noneOf(Tree.Kind.class);
        final List<ThrowTree> throwTrees = new ArrayList<>();
        final Map<NewClassTree, TypeMirror> typesMade = new HashMap<>();
        int staticBlocks;
        int throwsInConstructors;
        int triesLeftOut;
        int joins;

        private final CompilationUnitTree unit;
        private final Trees trees;

        Reading(CompilationUnitTree unit, Trees trees) {
            this.unit = unit;
            this.trees = trees;
        }

        /** How deep calls go from here, each method counted once on its way: a round is not gone again. */
        int depthFrom(Element method, Set<Element> open) {
            open.add(method);
            int deepest = 0;
            for (Element called : calls.getOrDefault(method, Set.of())) {
                if (!open.contains(called)) {
                    deepest = Math.max(deepest, depthFrom(called, open));
                }
            }
            open.remove(method);
            return 1 + deepest;
        }

        Set<Element> reachedFrom(Element method) {
            Set<Element> reached = new LinkedHashSet<>();
            List<Element> open = new ArrayList<>(calls.getOrDefault(method, Set.of()));
            while (!open.isEmpty()) {
                Element next = open.remove(open.size() - 1);
                if (reached.add(next)) {
                    open.addAll(calls.getOrDefault(next, Set.of()));
                }
            }
            return reached;
        }

        long linesOf(MethodTree method) {
            SourcePositions positions = trees.getSourcePositions();
            LineMap lines = unit.getLineMap();
            return lines.getLineNumber(positions.getEndPosition(unit, method))
                    - lines.getLineNumber(positions.getStartPosition(unit, method)) + 1;
        }

        @Override
        public Void scan(Tree tree, Void none) {
            if (tree != null) {
                kinds.add(tree.getKind());
            }
            return super.scan(tree, none);
        }

        @Override
        public Void visitClass(ClassTree tree, Void none) {
            classes.add((TypeElement) here());
            for (Tree member : tree.getMembers()) {
                TreePath path = new TreePath(getCurrentPath(), member);
                if (member instanceof BlockTree && ((BlockTree) member).isStatic()) {
                    staticBlocks++;
                } else if (trees.getElement(path) instanceof VariableElement) {
                    fields.add((VariableElement) trees.getElement(path));
                }
            }
            return super.visitClass(tree, none);
        }

        @Override
        public Void visitMethod(MethodTree tree, Void none) {
            // A constructor that nobody wrote has no place in the source, and no rule to keep.
            if (trees.getSourcePositions().getEndPosition(unit, tree) >= 0) {
                methods.put(here(), tree);
            }
            return super.visitMethod(tree, none);
        }

        @Override
        public Void visitMethodInvocation(MethodInvocationTree tree, Void none) {
            addCall(here());
            return super.visitMethodInvocation(tree, none);
        }

        @Override
        public Void visitNewClass(NewClassTree tree, Void none) {
            typesMade.put(tree, trees.getTypeMirror(getCurrentPath()));
            return super.visitNewClass(tree, none);
        }

        @Override
        public Void visitThrow(ThrowTree tree, Void none) {
            throwTrees.add(tree);
            Element method = methodAround();
            if (method != null && method.getKind() == ElementKind.CONSTRUCTOR) {
                throwsInConstructors++;
            }
            return super.visitThrow(tree, none);
        }

        @Override
        public Void visitTry(TryTree tree, Void none) {
            if (tree.getFinallyBlock() != null || !tree.getResources().isEmpty()) {
                triesLeftOut++;
            }
            return super.visitTry(tree, none);
        }

        @Override
        public Void visitBinary(BinaryTree tree, Void none) {
            if (tree.getKind() == Tree.Kind.PLUS && isText()) {
                joins++;
            }
            return super.visitBinary(tree, none);
        }

        @Override
        public Void visitCompoundAssignment(CompoundAssignmentTree tree, Void none) {
            if (isText()) {
                joins++;
            }
            return super.visitCompoundAssignment(tree, none);
        }

        private void addCall(Element called) {
            if (!(called instanceof ExecutableElement) || called.getKind() == ElementKind.CONSTRUCTOR) {
                return;
            }
            if (!classes.contains(called.getEnclosingElement()) && !standsInTheFile(called)) {
                library.add(called);
                return;
            }
            Element caller = methodAround();
            if (caller != null) {
                calls.computeIfAbsent(caller, key -> new LinkedHashSet<>()).add(called);
            }
        }

        private boolean standsInTheFile(Element called) {
            return trees.getPath(called) != null
                    && trees.getPath(called).getCompilationUnit() == unit;
        }

        private boolean isText() {
            return String.valueOf(trees.getTypeMirror(getCurrentPath())).equals("java.lang.String");
        }

        private Element here() {
            return trees.getElement(getCurrentPath());
        }

        private Element methodAround() {
            for (TreePath path = getCurrentPath(); path != null; path = path.getParentPath()) {
                if (path.getLeaf() instanceof MethodTree) {
                    return trees.getElement(path);
                }
            }
            return null;
        }
    }
}
