import com.sun.source.tree.ArrayAccessTree;
import com.sun.source.tree.AssignmentTree;
import com.sun.source.tree.BinaryTree;
import com.sun.source.tree.CompilationUnitTree;
import com.sun.source.tree.CompoundAssignmentTree;
import com.sun.source.tree.MethodInvocationTree;
import com.sun.source.tree.MethodTree;
import com.sun.source.tree.NewArrayTree;
import com.sun.source.tree.NewClassTree;
import com.sun.source.tree.Tree;
import com.sun.source.tree.TypeCastTree;
import com.sun.source.tree.VariableTree;
import com.sun.source.util.JavacTask;
import com.sun.source.util.TreePath;
import com.sun.source.util.TreePathScanner;
import com.sun.source.util.Trees;
import java.io.File;
import java.util.ArrayDeque;
import java.util.ArrayList;
import java.util.Deque;
import java.util.LinkedHashMap;
import java.util.List;
import java.util.Map;
import java.util.Set;
import java.util.TreeSet;
import javax.lang.model.element.Element;
import javax.lang.model.element.ElementKind;
import javax.lang.model.element.ExecutableElement;
import javax.lang.model.element.Modifier;
import javax.lang.model.type.TypeKind;
import javax.lang.model.type.TypeMirror;
import javax.tools.JavaCompiler;
import javax.tools.StandardJavaFileManager;
import javax.tools.ToolProvider;

/** The rules of ../shared/LANGUAGE.md that want the file read as the compiler reads it. */
public final class SourceTest {
    private static final File FILE = new File("src/main/java/TwoReels.java");
    private static final Set<Tree.Kind> FORBIDDEN = Set.of(Tree.Kind.THROW, Tree.Kind.TRY, Tree.Kind.CATCH,
        Tree.Kind.SYNCHRONIZED, Tree.Kind.ASSERT, Tree.Kind.LAMBDA_EXPRESSION, Tree.Kind.MEMBER_REFERENCE,
        Tree.Kind.ANNOTATION, Tree.Kind.IMPORT, Tree.Kind.PACKAGE, Tree.Kind.ENHANCED_FOR_LOOP);
    private static final Set<String> LIBRARY = Set.of("java.lang.String.length", "java.lang.String.charAt",
        "java.lang.Integer.bitCount", "java.lang.Math.min", "java.lang.Math.max", "java.lang.Math.abs",
        "java.lang.System.arraycopy");
    // These look at the index, or at the divisor, before they use it.
    private static final Set<String> INDEXING = Set.of("cell", "setCell", "ruled", "addLetter", "letterAt");
    private static final Set<String> DIVIDING = Set.of("dividedUp", "roomFor");
    private static final int DEEPEST = 8;

    private static final Map<String, Set<String>> CALLED = new LinkedHashMap<>();

    public static void main(String[] args) throws Exception {
        Due.topic("source, as the compiler reads it");
        JavaCompiler compiler = ToolProvider.getSystemJavaCompiler();
        try (StandardJavaFileManager files = compiler.getStandardFileManager(null, null, null)) {
            JavacTask task = (JavacTask) compiler.getTask(null, files, null, List.of("-proc:none"), null,
                files.getJavaFileObjects(FILE));
            List<CompilationUnitTree> units = new ArrayList<>();
            for (CompilationUnitTree unit : task.parse()) units.add(unit);
            task.analyze();
            for (CompilationUnitTree unit : units) new Reader(Trees.instance(task)).scan(unit, null);
        }
        depths();
        Due.close();
    }

    /** Calls that are no recursion go eight deep at most, and there is no recursion. */
    private static void depths() {
        int deepest = 0;
        for (String method : CALLED.keySet()) deepest = Math.max(deepest, depth(method, new ArrayDeque<>()));
        Due.holds("calls go " + deepest + " deep", deepest > 3 && deepest <= DEEPEST);
    }

    private static int depth(String method, Deque<String> open) {
        Due.holds(method + " is no recursion", !open.contains(method));
        if (open.contains(method)) return 0;
        open.push(method);
        int below = 0;
        for (String called : CALLED.getOrDefault(method, Set.of())) below = Math.max(below, depth(called, open));
        open.pop();
        return below + 1;
    }

    private static final class Reader extends TreePathScanner<Void, Void> {
        private final Trees trees;
        private String method = "";

        Reader(Trees trees) {
            this.trees = trees;
        }

        private Element element(Tree tree) {
            return trees.getElement(new TreePath(getCurrentPath(), tree));
        }

        @Override
        public Void scan(Tree tree, Void nothing) {
            if (tree != null) Due.holds("no " + tree.getKind() + " in " + method, !FORBIDDEN.contains(tree.getKind()));
            return super.scan(tree, nothing);
        }

        @Override
        public Void visitMethod(MethodTree tree, Void nothing) {
            Element self = trees.getElement(getCurrentPath());
            method = self.getEnclosingElement() + "." + tree.getName();
            Due.holds(method + " bears one name alone", CALLED.put(method, new TreeSet<>()) == null);
            Due.holds(method + " takes seven at most", tree.getParameters().size() <= 7);
            super.visitMethod(tree, nothing);
            method = "";
            return null;
        }

        @Override
        public Void visitMethodInvocation(MethodInvocationTree tree, Void nothing) {
            ExecutableElement called = (ExecutableElement) trees.getElement(getCurrentPath());
            String name = called.getEnclosingElement() + "." + called.getSimpleName();
            if (name.startsWith("TwoReels")) CALLED.computeIfAbsent(method, m -> new TreeSet<>()).add(name);
            else Due.holds("the library's " + name, LIBRARY.contains(name) || name.equals("java.lang.Object.<init>"));
            return super.visitMethodInvocation(tree, nothing);
        }

        @Override
        public Void visitArrayAccess(ArrayAccessTree tree, Void nothing) {
            Due.holds("an index in " + method, INDEXING.contains(simple()));
            return super.visitArrayAccess(tree, nothing);
        }

        @Override
        public Void visitBinary(BinaryTree tree, Void nothing) {
            boolean divides = tree.getKind() == Tree.Kind.DIVIDE || tree.getKind() == Tree.Kind.REMAINDER;
            boolean isByNumber = tree.getRightOperand().getKind() == Tree.Kind.INT_LITERAL;
            if (divides) Due.holds("a divisor in " + method, isByNumber || DIVIDING.contains(simple()));
            boolean isText = isText(tree.getLeftOperand()) || isText(tree.getRightOperand());
            Due.holds("texts in " + method, !isText);
            return super.visitBinary(tree, nothing);
        }

        @Override
        public Void visitCompoundAssignment(CompoundAssignmentTree tree, Void nothing) {
            boolean divides = tree.getKind() == Tree.Kind.DIVIDE_ASSIGNMENT
                || tree.getKind() == Tree.Kind.REMAINDER_ASSIGNMENT;
            if (divides) Due.holds("a divisor in " + method, tree.getExpression().getKind() == Tree.Kind.INT_LITERAL);
            return super.visitCompoundAssignment(tree, nothing);
        }

        private boolean isText(Tree tree) {
            TypeMirror type = trees.getTypeMirror(new TreePath(getCurrentPath(), tree));
            return type != null && type.toString().equals("java.lang.String");
        }

        private String simple() {
            return method.substring(method.lastIndexOf('.') + 1);
        }

        @Override
        public Void visitNewClass(NewClassTree tree, Void nothing) {
            Due.holds("made by a call, in " + method, method.isEmpty() && tree.getClassBody() == null);
            return super.visitNewClass(tree, nothing);
        }

        @Override
        public Void visitNewArray(NewArrayTree tree, Void nothing) {
            Due.holds("a row made by a call, in " + method, method.isEmpty());
            return super.visitNewArray(tree, nothing);
        }

        @Override
        public Void visitTypeCast(TypeCastTree tree, Void nothing) {
            TypeKind to = trees.getTypeMirror(new TreePath(getCurrentPath(), tree.getType())).getKind();
            Due.holds("a cast in " + method, to.isPrimitive());
            return super.visitTypeCast(tree, nothing);
        }

        /** A static field is a constant; arrays of these are written out. */
        @Override
        public Void visitVariable(VariableTree tree, Void nothing) {
            Element self = trees.getElement(getCurrentPath());
            Set<Modifier> modifiers = self.getModifiers();
            if (self.getKind() == ElementKind.FIELD && modifiers.contains(Modifier.STATIC)) {
                Due.holds(tree.getName() + " is final", modifiers.contains(Modifier.FINAL));
                boolean isRow = self.asType().getKind() == TypeKind.ARRAY;
                Due.holds(tree.getName() + " is written out", !isRow
                    || tree.getInitializer() instanceof NewArrayTree row && row.getInitializers() != null);
            }
            return super.visitVariable(tree, nothing);
        }

        /** Rows that are constants are never changed, so never the target of an assignment. */
        @Override
        public Void visitAssignment(AssignmentTree tree, Void nothing) {
            Element target = element(tree.getVariable());
            boolean isConstant = target != null && target.getModifiers().contains(Modifier.STATIC);
            Due.holds("a constant changed in " + method, !isConstant);
            return super.visitAssignment(tree, nothing);
        }
    }
}
