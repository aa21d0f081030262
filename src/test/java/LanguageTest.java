import com.sun.source.tree.AssertTree;
import com.sun.source.tree.BinaryTree;
import com.sun.source.tree.BlockTree;
import com.sun.source.tree.ClassTree;
import com.sun.source.tree.CompilationUnitTree;
import com.sun.source.tree.CompoundAssignmentTree;
import com.sun.source.tree.DoWhileLoopTree;
import com.sun.source.tree.ExpressionStatementTree;
import com.sun.source.tree.ExpressionTree;
import com.sun.source.tree.ForLoopTree;
import com.sun.source.tree.ImportTree;
import com.sun.source.tree.LambdaExpressionTree;
import com.sun.source.tree.LiteralTree;
import com.sun.source.tree.MemberReferenceTree;
import com.sun.source.tree.MethodInvocationTree;
import com.sun.source.tree.MethodTree;
import com.sun.source.tree.NewArrayTree;
import com.sun.source.tree.NewClassTree;
import com.sun.source.tree.SynchronizedTree;
import com.sun.source.tree.ThrowTree;
import com.sun.source.tree.Tree;
import com.sun.source.tree.TryTree;
import com.sun.source.tree.TypeCastTree;
import com.sun.source.tree.UnaryTree;
import com.sun.source.tree.VariableTree;
import com.sun.source.tree.WhileLoopTree;
import com.sun.source.util.JavacTask;
import com.sun.source.util.TreePath;
import com.sun.source.util.TreePathScanner;
import com.sun.source.util.Trees;
import java.io.File;
import java.util.ArrayList;
import java.util.HashMap;
import java.util.LinkedHashMap;
import java.util.List;
import java.util.Map;
import java.util.Set;
import java.util.TreeSet;
import java.util.regex.Pattern;
import javax.lang.model.element.Element;
import javax.lang.model.element.ElementKind;
import javax.lang.model.element.ExecutableElement;
import javax.lang.model.element.Modifier;
import javax.lang.model.element.TypeElement;
import javax.lang.model.type.ArrayType;
import javax.lang.model.type.TypeKind;
import javax.lang.model.type.TypeMirror;
import javax.tools.JavaCompiler;
import javax.tools.StandardJavaFileManager;
import javax.tools.ToolProvider;

/** The rules of LANGUAGE.md that can be seen in the source, by their numbers; some stricter, as the class needs no more. */
public final class LanguageTest extends Check {
    private static final String SOURCE = "src/main/java/LentNames.java";
    private static final Set<String> LIBRARY = Set.of("String.length", "String.charAt", "Math.max", "Math.min",
        "Integer.bitCount", "System.arraycopy", "Object.<init>");
    private static final Set<String> EXCEPTIONS = Set.of("IllegalStateException", "IllegalArgumentException",
        "IndexOutOfBoundsException", "UnsupportedOperationException", "NoSuchElementException");
    private static final Set<String> TYPES = Set.of("int", "long", "boolean", "char", "byte", "void", "java.lang.String", "int[]");
    private static final Set<String> CONSTANTS = Set.of("int", "long", "boolean", "char", "java.lang.String");
    private static final int MOST_PARAMETERS = 7;
    private static final int MOST_METHOD_LINES = 60;
    private static final int MOST_CLASSES = 12;
    private static final int MOST_FIELDS = 20;
    private static final int MOST_CALLS_DEEP = 8;

    public static void main(String[] args) throws Exception {
        JavaCompiler compiler = ToolProvider.getSystemJavaCompiler();
        try (StandardJavaFileManager files = compiler.getStandardFileManager(null, null, null)) {
            JavacTask task = (JavacTask) compiler.getTask(null, files, null, List.of("-proc:none"), null,
                files.getJavaFileObjects(new File(SOURCE)));
            Iterable<? extends CompilationUnitTree> units = task.parse();
            task.analyze();
            for (CompilationUnitTree unit : units) {
                Rules rules = new Rules(Trees.instance(task), unit);
                rules.scan(unit, null);
                holds("11: at most some twelve classes", rules.classes.size() <= MOST_CLASSES, "" + rules.classes);
                rules.calls.holdDepth();
            }
        }
        exit();
    }

    private static void holds(String rule, boolean kept, String where) {
        due("rule " + rule + " (" + where + ")", kept, true);
    }

    /** Which own methods call which. */
    private static final class Calls {
        private final Map<String, Set<String>> called = new LinkedHashMap<>();
        private final Map<String, Set<String>> reached = new HashMap<>();
        private final Map<String, List<String>> longest = new HashMap<>();
        // These only stand for those that override them, and count nothing.
        private final Set<String> empty = new TreeSet<>();

        void add(String from, String to) {
            called.computeIfAbsent(from, k -> new TreeSet<>()).add(to);
            called.computeIfAbsent(to, k -> new TreeSet<>());
        }

        void holdDepth() {
            for (String method : called.keySet()) {
                reached.put(method, reachedFrom(method));
            }
            List<String> deepest = List.of();
            for (String method : called.keySet()) {
                List<String> path = longestFrom(method);
                deepest = path.size() > deepest.size() ? path : deepest;
            }
            holds("11: calls go at most eight deep", deepest.size() <= MOST_CALLS_DEEP, String.join(" > ", deepest));
            holds("11: the calls were found", deepest.size() > 2, String.join(" > ", deepest));
        }

        private Set<String> reachedFrom(String method) {
            Set<String> all = new TreeSet<>();
            List<String> open = new ArrayList<>(called.get(method));
            while (!open.isEmpty()) {
                String next = open.remove(open.size() - 1);
                if (all.add(next)) {
                    open.addAll(called.get(next));
                }
            }
            return all;
        }

        /** Methods that call one another count once, since recursion is not counted. */
        private List<String> longestFrom(String method) {
            List<String> known = longest.get(method);
            if (known != null) {
                return known;
            }
            Set<String> ring = new TreeSet<>(Set.of(method));
            for (String other : called.keySet()) {
                if (reached.get(method).contains(other) && reached.get(other).contains(method)) {
                    ring.add(other);
                }
            }
            List<String> best = List.of();
            for (String one : ring) {
                for (String next : called.get(one)) {
                    List<String> path = ring.contains(next) ? List.of() : longestFrom(next);
                    best = path.size() > best.size() ? path : best;
                }
            }
            List<String> path = new ArrayList<>();
            if (!empty.containsAll(ring)) {
                path.add(String.join("/", ring));
            }
            path.addAll(best);
            longest.put(method, path);
            return path;
        }
    }

    private static final class Rules extends TreePathScanner<Void, Void> {
        final List<String> classes = new ArrayList<>();
        final Calls calls = new Calls();
        private final Trees trees;
        private final CompilationUnitTree unit;
        private final List<TypeElement> types = new ArrayList<>();

        Rules(Trees trees, CompilationUnitTree unit) {
            this.trees = trees;
            this.unit = unit;
        }

        @Override
        public Void visitImport(ImportTree tree, Void none) {
            holds("4: the library", tree.toString().trim().equals("import java.util.NoSuchElementException;"), tree.toString().trim());
            return null;
        }

        @Override
        public Void visitClass(ClassTree tree, Void none) {
            TypeElement type = (TypeElement) element();
            String name = type.getSimpleName().toString();
            classes.add(name);
            types.add(type);
            boolean outer = getCurrentPath().getParentPath().getLeaf() == unit;
            Set<Modifier> modifiers = type.getModifiers();
            boolean hidden = !modifiers.contains(Modifier.PUBLIC) && !modifiers.contains(Modifier.PROTECTED);
            holds("1: classes inside are private or package-visible and static", outer || hidden && modifiers.contains(Modifier.STATIC), name);
            int fields = 0;
            for (Tree member : tree.getMembers()) {
                boolean isField = member instanceof VariableTree;
                fields += isField && !((VariableTree) member).getModifiers().getFlags().contains(Modifier.STATIC) ? 1 : 0;
                holds("5: no initialiser blocks", !(member instanceof BlockTree), name);
            }
            holds("11: at most some twenty fields", fields <= MOST_FIELDS, name);
            holdNoNull(tree, name);
            return super.visitClass(tree, none);
        }

        @Override
        public Void visitVariable(VariableTree tree, Void none) {
            Element variable = element();
            String name = tree.getName().toString();
            holdType(variable.asType(), name);
            if (variable.getKind() == ElementKind.FIELD && variable.getModifiers().contains(Modifier.STATIC)) {
                boolean constant = variable.getModifiers().contains(Modifier.FINAL) && CONSTANTS.contains(variable.asType().toString());
                holds("5: static fields are constants", constant, name);
            }
            return super.visitVariable(tree, none);
        }

        @Override
        public Void visitMethod(MethodTree tree, Void none) {
            ExecutableElement method = (ExecutableElement) element();
            String name = nameOf(method);
            holds("11: at most seven parameters", tree.getParameters().size() <= MOST_PARAMETERS, name);
            holds("11: methods are short", lines(tree) <= MOST_METHOD_LINES, name);
            holdType(method.getReturnType(), name);
            if (method.getModifiers().contains(Modifier.ABSTRACT)) {
                calls.empty.add(name);
            }
            linkOverridden(method);
            return super.visitMethod(tree, none);
        }

        @Override
        public Void visitMethodInvocation(MethodInvocationTree tree, Void none) {
            ExecutableElement method = (ExecutableElement) element();
            if (isOwn(method)) {
                calls.add(caller(), nameOf(method));
            } else {
                holds("4: the library", LIBRARY.contains(nameOf(method)), nameOf(method));
            }
            return super.visitMethodInvocation(tree, none);
        }

        @Override
        public Void visitNewClass(NewClassTree tree, Void none) {
            ExecutableElement made = (ExecutableElement) element();
            holds("2: no anonymous classes (none is needed)", tree.getClassBody() == null, caller());
            if (isOwn(made)) {
                calls.add(caller(), nameOf(made));
                holds("12: own objects are made in constructors alone", isMadeOnce(), caller());
            } else {
                boolean thrown = getCurrentPath().getParentPath().getLeaf() instanceof ThrowTree;
                holds("4: the library", thrown, caller() + " makes " + nameOf(made));
            }
            return super.visitNewClass(tree, none);
        }

        @Override
        public Void visitNewArray(NewArrayTree tree, Void none) {
            holds("12: arrays are made in constructors alone", isMadeOnce(), caller());
            return super.visitNewArray(tree, none);
        }

        @Override
        public Void visitThrow(ThrowTree tree, Void none) {
            boolean right = tree.getExpression() instanceof NewClassTree;
            if (right) {
                NewClassTree made = (NewClassTree) tree.getExpression();
                List<? extends ExpressionTree> arguments = made.getArguments();
                boolean written = arguments.isEmpty() || arguments.size() == 1 && arguments.get(0) instanceof LiteralTree;
                right = EXCEPTIONS.contains(made.getIdentifier().toString()) && written;
            }
            holds("6: throw new E(\"a written text\")", right, tree.toString());
            holds("6: no throw in a constructor", !caller().endsWith(".<init>"), caller());
            return super.visitThrow(tree, none);
        }

        @Override
        public Void visitTry(TryTree tree, Void none) {
            return unused("6: no try (none is needed)");
        }

        @Override
        public Void visitAssert(AssertTree tree, Void none) {
            return unused("6: no assert");
        }

        @Override
        public Void visitSynchronized(SynchronizedTree tree, Void none) {
            return unused("6: no synchronized");
        }

        @Override
        public Void visitTypeCast(TypeCastTree tree, Void none) {
            return unused("6: no cast (none is needed)");
        }

        @Override
        public Void visitLambdaExpression(LambdaExpressionTree tree, Void none) {
            return unused("2: no lambda");
        }

        @Override
        public Void visitMemberReference(MemberReferenceTree tree, Void none) {
            return unused("2: no method reference");
        }

        @Override
        public Void visitLiteral(LiteralTree tree, Void none) {
            holds("7: no reference is null", tree.getKind() != Tree.Kind.NULL_LITERAL, caller());
            return super.visitLiteral(tree, none);
        }

        @Override
        public Void visitForLoop(ForLoopTree tree, Void none) {
            holdEnd(tree.getCondition());
            String counter = counted(tree.getUpdate());
            boolean own = tree.getInitializer().toString().startsWith("int " + counter + " = ");
            boolean asked = (" " + tree.getCondition()).contains(" " + counter + " ");
            holds("9: a for loop counts a number of its own against a bound", own && asked, caller());
            return super.visitForLoop(tree, none);
        }

        @Override
        public Void visitWhileLoop(WhileLoopTree tree, Void none) {
            holdEnd(tree.getCondition());
            return super.visitWhileLoop(tree, none);
        }

        @Override
        public Void visitDoWhileLoop(DoWhileLoopTree tree, Void none) {
            holdEnd(tree.getCondition());
            return super.visitDoWhileLoop(tree, none);
        }

        @Override
        public Void visitBinary(BinaryTree tree, Void none) {
            boolean numbers = isNumber(tree.getLeftOperand()) && isNumber(tree.getRightOperand());
            holds("6 and 10: no + of texts, no == of texts", numbers, tree.toString());
            boolean divides = tree.getKind() == Tree.Kind.DIVIDE || tree.getKind() == Tree.Kind.REMAINDER;
            holds("7: no division (none is needed)", !divides, tree.toString());
            return super.visitBinary(tree, none);
        }

        @Override
        public Void visitCompoundAssignment(CompoundAssignmentTree tree, Void none) {
            boolean divides = tree.getKind() == Tree.Kind.DIVIDE_ASSIGNMENT || tree.getKind() == Tree.Kind.REMAINDER_ASSIGNMENT;
            holds("7: no division (none is needed)", !divides, tree.toString());
            holds("10: no + of texts", isNumber(tree.getVariable()), tree.toString());
            return super.visitCompoundAssignment(tree, none);
        }

        private static String counted(List<? extends ExpressionStatementTree> updates) {
            ExpressionTree update = updates.size() == 1 ? updates.get(0).getExpression() : null;
            if (update instanceof CompoundAssignmentTree) {
                return ((CompoundAssignmentTree) update).getVariable().toString();
            }
            return update instanceof UnaryTree ? ((UnaryTree) update).getExpression().toString() : "nothing";
        }

        private Element element() {
            return trees.getElement(getCurrentPath());
        }

        private boolean isNumber(Tree tree) {
            return trees.getTypeMirror(new TreePath(getCurrentPath(), tree)).getKind().isPrimitive();
        }

        private Void unused(String rule) {
            holds(rule, false, caller());
            return null;
        }

        private void holdEnd(ExpressionTree condition) {
            holds("9: a loop has an end", condition != null && condition.toString().matches(".*[<>].*|.*!=.*"), caller());
        }

        private void holdType(TypeMirror type, String where) {
            TypeMirror part = type.getKind() == TypeKind.ARRAY ? ((ArrayType) type).getComponentType() : type;
            holds("3: types", TYPES.contains(type.toString()) || part.toString().startsWith("LentNames"), where + ": " + type);
        }

        private boolean isOwn(Element method) {
            return method.getEnclosingElement().asType().toString().startsWith("LentNames");
        }

        private static String nameOf(ExecutableElement method) {
            return method.getEnclosingElement().getSimpleName() + "." + method.getSimpleName();
        }

        /** No field is ever null: each that could be is set where it stands or in the constructor, and null is never written. */
        private void holdNoNull(ClassTree tree, String name) {
            StringBuilder made = new StringBuilder();
            for (Tree member : tree.getMembers()) {
                if (member instanceof MethodTree && ((MethodTree) member).getName().contentEquals("<init>")) {
                    made.append(((MethodTree) member).getBody());
                }
            }
            for (Tree member : tree.getMembers()) {
                if (member instanceof VariableTree && !isNumber(((VariableTree) member).getType())) {
                    VariableTree field = (VariableTree) member;
                    boolean set = field.getInitializer() != null || Pattern.compile("\\b" + field.getName() + " = ").matcher(made).find();
                    holds("7: no reference is null", set, name + "." + field.getName());
                }
            }
        }

        /** Field initialisers belong to constructors. */
        private boolean isMadeOnce() {
            return caller().endsWith(".<init>");
        }

        private String caller() {
            for (TreePath path = getCurrentPath(); path != null; path = path.getParentPath()) {
                if (path.getLeaf() instanceof MethodTree) {
                    return nameOf((ExecutableElement) trees.getElement(path));
                }
                if (path.getLeaf() instanceof ClassTree) {
                    return trees.getElement(path).getSimpleName() + ".<init>";
                }
            }
            return "none";
        }

        /** A method may be called wherever the one is that it overrides. */
        private void linkOverridden(ExecutableElement method) {
            TypeElement type = (TypeElement) method.getEnclosingElement();
            holds("(no interfaces: this test does not follow them)", type.getInterfaces().isEmpty(), type.toString());
            for (TypeElement above : types) {
                if (above.asType().toString().equals(type.getSuperclass().toString())) {
                    linkNamesakes(above, method);
                }
            }
        }

        private void linkNamesakes(TypeElement above, ExecutableElement method) {
            for (Element member : above.getEnclosedElements()) {
                if (member.getKind() == ElementKind.METHOD && member.getSimpleName().equals(method.getSimpleName())) {
                    calls.add(nameOf((ExecutableElement) member), nameOf(method));
                }
            }
        }

        private long lines(MethodTree tree) {
            long from = trees.getSourcePositions().getStartPosition(unit, tree);
            long to = trees.getSourcePositions().getEndPosition(unit, tree);
            return unit.getLineMap().getLineNumber(to) - unit.getLineMap().getLineNumber(from) + 1;
        }
    }
}
