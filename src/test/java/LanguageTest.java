import com.sun.source.tree.BinaryTree;
import com.sun.source.tree.BlockTree;
import com.sun.source.tree.ClassTree;
import com.sun.source.tree.CompilationUnitTree;
import com.sun.source.tree.CompoundAssignmentTree;
import com.sun.source.tree.EnhancedForLoopTree;
import com.sun.source.tree.ExpressionTree;
import com.sun.source.tree.ForLoopTree;
import com.sun.source.tree.LiteralTree;
import com.sun.source.tree.MethodInvocationTree;
import com.sun.source.tree.MethodTree;
import com.sun.source.tree.NewArrayTree;
import com.sun.source.tree.NewClassTree;
import com.sun.source.tree.ThrowTree;
import com.sun.source.tree.Tree;
import com.sun.source.tree.TypeCastTree;
import com.sun.source.tree.VariableTree;
import com.sun.source.util.JavacTask;
import com.sun.source.util.TreePath;
import com.sun.source.util.TreePathScanner;
import com.sun.source.util.Trees;
import java.io.IOException;
import java.nio.file.Files;
import java.nio.file.Path;
import java.util.EnumSet;
import java.util.List;
import java.util.Map;
import java.util.Set;
import java.util.TreeMap;
import java.util.TreeSet;
import javax.lang.model.element.Element;
import javax.lang.model.element.ElementKind;
import javax.lang.model.element.ExecutableElement;
import javax.lang.model.element.Modifier;
import javax.lang.model.element.VariableElement;
import javax.lang.model.type.TypeKind;
import javax.lang.model.type.TypeMirror;
import javax.tools.JavaCompiler;
import javax.tools.StandardJavaFileManager;
import javax.tools.ToolProvider;

/**
 * The rules of LANGUAGE.md that can be read off the program's text, as javac understands it. What the program does
 * without, as try, while and instanceof, is refused though a rule may leave it: whoever needs it looks at the rule first.
 */
public final class LanguageTest {
    private static final Path PROGRAM = Path.of("src/main/java/Shedwheel.java");
    private static final Set<String> IMPORTS = Set.of("java.util.ArrayList", "java.util.List",
            "java.util.NoSuchElementException", "java.util.Arrays", "java.util.Iterator");
    private static final Set<String> LIST = Set.of("<init>()", "add(E)", "add(int,E)", "get(int)", "set(int,E)",
            "remove(int)", "size()", "isEmpty()", "clear()");
    private static final Set<String> NUMBERS = Set.of("compare", "max", "min", "abs", "bitCount", "floorDiv",
            "floorMod");
    private static final Map<String, Set<String>> LIBRARY = Map.of("java.util.ArrayList", LIST, "java.util.List", LIST,
            "java.lang.Object", Set.of("<init>()"));
    private static final Set<String> EXCEPTIONS = Set.of("java.lang.IllegalStateException",
            "java.lang.IllegalArgumentException", "java.lang.IndexOutOfBoundsException", "java.lang.ArithmeticException",
            "java.lang.UnsupportedOperationException", "java.util.NoSuchElementException", "java.lang.RuntimeException");
    private static final String OWN = "Shedwheel(\\.\\w+)?";
    private static final String VALUE = "int|long|short|byte|char|boolean";
    private static final String TYPE = "(" + VALUE + ")(\\[\\]){0,2}|" + OWN + "(\\[\\])?|java.lang.String"
            + "|java.lang.StringBuilder|java.util.(Array)?List<(" + OWN + "|java.lang.Integer)>|void";
    private static final Set<Tree.Kind> WITHOUT = EnumSet.of(Tree.Kind.LAMBDA_EXPRESSION, Tree.Kind.MEMBER_REFERENCE,
            Tree.Kind.TRY, Tree.Kind.SYNCHRONIZED, Tree.Kind.ASSERT, Tree.Kind.INSTANCE_OF, Tree.Kind.WHILE_LOOP,
            Tree.Kind.DO_WHILE_LOOP, Tree.Kind.DIVIDE_ASSIGNMENT, Tree.Kind.REMAINDER_ASSIGNMENT);
    private static final int MOST_LINES = 60;
    private static final int MOST_PARAMETERS = 7;
    private static final int MOST_FIELDS = 20;
    private static final int MOST_CLASSES = 12;
    private static final int MOST_DEPTH = 8;

    private static final Due DUE = new Due("LanguageTest");

    public static void main(String[] args) throws IOException {
        String text = Files.readString(PROGRAM);
        DUE.same("3: the signs are plain", text.chars().allMatch(sign -> sign < 128), true);
        JavaCompiler compiler = ToolProvider.getSystemJavaCompiler();
        try (StandardJavaFileManager files = compiler.getStandardFileManager(null, null, null)) {
            JavacTask task = (JavacTask) compiler.getTask(null, files, null, List.of("-proc:none"), null,
                    files.getJavaFileObjects(PROGRAM));
            CompilationUnitTree unit = task.parse().iterator().next();
            task.analyze();
            Reader reader = new Reader(Trees.instance(task), unit);
            reader.holdUnit();
            reader.scan(unit, null);
            reader.holdCalls();
        }
        DUE.end();
    }

    private static final class Reader extends TreePathScanner<Void, Void> {
        private final Trees trees;
        private final CompilationUnitTree unit;
        /** Each method, and the program's methods that it calls. */
        private final Map<String, Set<String>> calls = new TreeMap<>();
        private final Set<String> mayRecur = new TreeSet<>();
        private int classes = 0;
        private String method = "";

        Reader(Trees trees, CompilationUnitTree unit) {
            this.trees = trees;
            this.unit = unit;
        }

        private void hold(String rule, Tree tree, boolean holds) {
            long line = unit.getLineMap().getLineNumber(trees.getSourcePositions().getStartPosition(unit, tree));
            DUE.same(rule + ", line " + line, holds, true);
        }

        private Element element() {
            return trees.getElement(getCurrentPath());
        }

        private TypeMirror typeOf(Tree tree) {
            return trees.getTypeMirror(new TreePath(getCurrentPath(), tree));
        }

        private boolean isText(Tree tree) {
            return typeOf(tree).toString().equals("java.lang.String");
        }

        /** Whether it stands in a method: a field is made but once. */
        private boolean inMethod() {
            TreePath at = getCurrentPath();
            while (!(at.getLeaf() instanceof MethodTree) && !(at.getLeaf() instanceof ClassTree)) {
                at = at.getParentPath();
            }
            return at.getLeaf() instanceof MethodTree;
        }

        private boolean inLoop() {
            for (TreePath at = getCurrentPath(); !(at.getLeaf() instanceof ClassTree); at = at.getParentPath()) {
                Tree leaf = at.getLeaf();
                if (leaf instanceof ForLoopTree || leaf instanceof EnhancedForLoopTree) {
                    return true;
                }
            }
            return false;
        }

        void holdUnit() {
            hold("the program has no package", unit, unit.getPackage() == null);
            hold("one class stands in the file", unit, unit.getTypeDecls().size() == 1);
            unit.getImports().forEach(line -> hold("4: " + line, line,
                    IMPORTS.contains(line.getQualifiedIdentifier().toString())));
        }

        // ---- classes, fields, methods

        @Override
        public Void visitClass(ClassTree tree, Void none) {
            Element parent = element().getEnclosingElement();
            hold("2: no local class", tree, parent.getKind().isClass() || parent.getKind() == ElementKind.PACKAGE);
            hold("1: a class inside is private or package-visible, and static", tree, !parent.getKind().isClass()
                    || element().getModifiers().contains(Modifier.STATIC)
                    && !element().getModifiers().contains(Modifier.PUBLIC));
            classes++;
            hold("11: few classes", tree, classes <= MOST_CLASSES);
            long fields = 0;
            for (Tree member : tree.getMembers()) {
                hold("5: no initialiser block", member, !(member instanceof BlockTree));
                fields += member instanceof VariableTree field
                        && !field.getModifiers().getFlags().contains(Modifier.STATIC) ? 1 : 0;
            }
            hold("11: few fields", tree, fields <= MOST_FIELDS);
            return super.visitClass(tree, none);
        }

        @Override
        public Void visitVariable(VariableTree tree, Void none) {
            String type = element().asType().toString();
            hold("3: the type " + type, tree, type.matches(TYPE));
            if (element().getModifiers().contains(Modifier.STATIC)) {
                hold("5: a static field is a constant", tree, element().getModifiers().contains(Modifier.FINAL)
                        && ((VariableElement) element()).getConstantValue() != null);
            }
            return super.visitVariable(tree, none);
        }

        @Override
        public Void visitMethod(MethodTree tree, Void none) {
            ExecutableElement one = (ExecutableElement) element();
            method = nameOf(one);
            calls.put(method, new TreeSet<>());
            if (one.getModifiers().containsAll(Set.of(Modifier.PRIVATE, Modifier.STATIC))) {
                mayRecur.add(method);
            }
            hold("6: no own equals, hashCode, toString", tree, !Set.of("equals", "hashCode", "toString")
                    .contains(one.getSimpleName().toString()));
            hold("3: what is answered", tree, one.getReturnType().toString().matches(TYPE));
            hold("11: few parameters", tree, one.getParameters().size() <= MOST_PARAMETERS);
            long first = trees.getSourcePositions().getStartPosition(unit, tree);
            long last = trees.getSourcePositions().getEndPosition(unit, tree);
            hold("11: a short method", tree, last < 0
                    || unit.getLineMap().getLineNumber(last) - unit.getLineMap().getLineNumber(first) < MOST_LINES);
            return super.visitMethod(tree, none);
        }

        private static String nameOf(Element one) {
            return one.getEnclosingElement() + "." + one;
        }

        // ---- calls

        @Override
        public Void visitMethodInvocation(MethodInvocationTree tree, Void none) {
            holdCall(tree, element());
            return super.visitMethodInvocation(tree, none);
        }

        private void holdCall(Tree tree, Element called) {
            String owner = called.getEnclosingElement().toString();
            if (owner.matches(OWN)) {
                calls.get(method).add(nameOf(called));
            } else if (Set.of("java.lang.Math", "java.lang.Integer", "java.lang.Long").contains(owner)) {
                hold("4: the library: " + called, tree, NUMBERS.contains(called.getSimpleName().toString())
                        && !called.toString().contains("double") && !called.toString().contains("float"));
            } else {
                hold("4: the library: " + owner + "." + called, tree,
                        LIBRARY.getOrDefault(owner, Set.of()).contains(
                                called.getSimpleName().contentEquals("<init>") ? "<init>()" : called.toString()));
            }
        }

        /** No method calls itself but a private static one, none calls another round, and calls go not too deep. */
        void holdCalls() {
            for (String from : calls.keySet()) {
                hold("8: recursion of " + from, unit, !calls.get(from).contains(from) || mayRecur.contains(from));
                hold("11: calls go at most eight deep, no circle: " + from, unit, depth(from, 1) <= MOST_DEPTH);
            }
        }

        private int depth(String from, int at) {
            int deepest = at;
            for (String to : calls.getOrDefault(from, Set.of())) {
                if (!to.equals(from) && at <= MOST_DEPTH) {
                    deepest = Math.max(deepest, depth(to, at + 1));
                }
            }
            return deepest;
        }

        // ---- objects and exceptions

        @Override
        public Void visitNewClass(NewClassTree tree, Void none) {
            boolean thrown = getCurrentPath().getParentPath().getLeaf() instanceof ThrowTree;
            hold("12: no object is made in a loop", tree, !inLoop());
            if (!thrown && inMethod()) {
                holdCall(tree, element());
            }
            return super.visitNewClass(tree, none);
        }

        @Override
        public Void visitThrow(ThrowTree tree, Void none) {
            ExpressionTree thrown = tree.getExpression();
            hold("6: just new exceptions are thrown", tree, thrown instanceof NewClassTree);
            hold("6: which exceptions", tree, EXCEPTIONS.contains(typeOf(thrown).toString()));
            if (thrown instanceof NewClassTree made) {
                hold("6: with a written text", tree, made.getArguments().isEmpty()
                        || made.getArguments().size() == 1 && made.getArguments().get(0) instanceof LiteralTree);
            }
            hold("6: no throw in a constructor", tree, !method.contains(".Shedwheel(") && !method.matches(
                    ".*\\.(\\w+)\\.\\1\\(.*"));
            return super.visitThrow(tree, none);
        }

        @Override
        public Void visitNewArray(NewArrayTree tree, Void none) {
            for (ExpressionTree length : tree.getDimensions()) {
                hold("7: an array's length is a constant", tree, isConstant(length));
            }
            hold("12: arrays are made once", tree, !inMethod());
            return super.visitNewArray(tree, none);
        }

        /** A number, or a constant by its name, or a sum of these. */
        private boolean isConstant(ExpressionTree tree) {
            if (tree instanceof BinaryTree sum) {
                return isConstant(sum.getLeftOperand()) && isConstant(sum.getRightOperand());
            }
            Element named = trees.getElement(new TreePath(getCurrentPath(), tree));
            return tree instanceof LiteralTree
                    || named instanceof VariableElement one && one.getConstantValue() != null;
        }

        // ---- operators and loops

        @Override
        public Void visitBinary(BinaryTree tree, Void none) {
            switch (tree.getKind()) {
                case DIVIDE:
                case REMAINDER:
                    hold("7: the divisor is a constant, not 0", tree, isConstant(tree.getRightOperand())
                            && !tree.getRightOperand().toString().equals("0"));
                    break;
                case PLUS:
                    hold("10: texts aren't joined by +", tree, !isText(tree));
                    break;
                case EQUAL_TO:
                case NOT_EQUAL_TO:
                    hold("6: == is for numbers", tree, typeOf(tree.getLeftOperand()).getKind() != TypeKind.DECLARED);
                    break;
                default:
                    break;
            }
            return super.visitBinary(tree, none);
        }

        @Override
        public Void visitCompoundAssignment(CompoundAssignmentTree tree, Void none) {
            hold("10: texts aren't joined by +=", tree, !isText(tree.getVariable()));
            return super.visitCompoundAssignment(tree, none);
        }

        @Override
        public Void visitForLoop(ForLoopTree tree, Void none) {
            hold("9: a loop's end is seen", tree, tree.getInitializer().size() == 1 && tree.getCondition() != null
                    && tree.getUpdate().size() == 1 && tree.getCondition().toString().contains("<"));
            return super.visitForLoop(tree, none);
        }

        @Override
        public Void visitEnhancedForLoop(EnhancedForLoopTree tree, Void none) {
            hold("12: a list is walked by index", tree, typeOf(tree.getExpression()).getKind() == TypeKind.ARRAY);
            return super.visitEnhancedForLoop(tree, none);
        }

        // ---- what the program does without

        @Override
        public Void scan(Tree tree, Void none) {
            if (tree != null && WITHOUT.contains(tree.getKind())) {
                hold("2, 6, 7, 9: there is no " + tree.getKind(), tree, false);
            }
            return super.scan(tree, none);
        }

        @Override
        public Void visitTypeCast(TypeCastTree tree, Void none) {
            hold("7: no cast", tree, typeOf(tree.getType()).getKind().isPrimitive());
            return super.visitTypeCast(tree, none);
        }
    }
}
