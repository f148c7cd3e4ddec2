import com.sun.source.tree.ArrayAccessTree;
import com.sun.source.tree.AssignmentTree;
import com.sun.source.tree.BinaryTree;
import com.sun.source.tree.CompilationUnitTree;
import com.sun.source.tree.MemberSelectTree;
import com.sun.source.tree.MethodInvocationTree;
import com.sun.source.tree.MethodTree;
import com.sun.source.tree.NewArrayTree;
import com.sun.source.tree.NewClassTree;
import com.sun.source.tree.Tree;
import com.sun.source.tree.VariableTree;
import com.sun.source.util.JavacTask;
import com.sun.source.util.TreePath;
import com.sun.source.util.TreePathScanner;
import com.sun.source.util.Trees;
import java.io.File;
import java.util.ArrayDeque;
import java.util.ArrayList;
import java.util.Deque;
import java.util.LinkedHashMap;
import java.util.List;
import java.util.Map;
import java.util.Set;
import java.util.TreeSet;
import javax.lang.model.element.Element;
import javax.lang.model.element.ElementKind;
import javax.lang.model.element.ExecutableElement;
import javax.lang.model.element.Modifier;
import javax.lang.model.type.TypeKind;
import javax.lang.model.type.TypeMirror;
import javax.tools.JavaCompiler;
import javax.tools.StandardJavaFileManager;
import javax.tools.ToolProvider;

/** The rules of ../shared/LANGUAGE.md that want the file read as the compiler reads it; a number tells the rule. */
public final class SourceTest {
    private static final File FILE = new File("src/main/java/TwoReels.java");
    private static final Set<Tree.Kind> FORBIDDEN = Set.of(Tree.Kind.THROW, Tree.Kind.TRY, Tree.Kind.CATCH,
        Tree.Kind.SYNCHRONIZED, Tree.Kind.ASSERT, Tree.Kind.LAMBDA_EXPRESSION, Tree.Kind.MEMBER_REFERENCE,
        Tree.Kind.PACKAGE);
    private static final Set<String> TEXT = Set.of("length", "charAt", "isEmpty", "equals", "indexOf", "substring",
        "toCharArray", "append", "setCharAt", "setLength", "deleteCharAt", "reverse", "toString");
    private static final Set<String> LIST = Set.of("add", "get", "set", "remove", "size", "isEmpty", "clear", "of");
    private static final Set<String> PLAIN = Set.of("int", "long", "short", "byte", "char", "boolean", "double",
        "float");
    private static final Set<String> LISTED = Set.of("java\\.lang\\.(String|StringBuilder|Integer)",
        "java\\.util\\.(ArrayList|List)<(java\\.lang\\.Integer|TwoReels\\..+)>");
    private static final int DEEPEST = 8;

    private static final Map<String, Set<String>> CALLED = new LinkedHashMap<>();

    public static void main(String[] args) throws Exception {
        Due.topic("source, as the compiler reads it");
        JavaCompiler compiler = ToolProvider.getSystemJavaCompiler();
        try (StandardJavaFileManager files = compiler.getStandardFileManager(null, null, null)) {
            JavacTask task = (JavacTask) compiler.getTask(null, files, null, List.of("-proc:none"), null,
                files.getJavaFileObjects(FILE));
            List<CompilationUnitTree> units = new ArrayList<>();
            for (CompilationUnitTree unit : task.parse()) units.add(unit);
            task.analyze();
            for (CompilationUnitTree unit : units) new Reader(Trees.instance(task)).scan(unit, null);
        }
        depths();
        Due.close();
    }

    /** A call of one that is open already is recursion, which has a rule of its own. */
    private static void depths() {
        int deepest = 0;
        for (String method : CALLED.keySet()) deepest = Math.max(deepest, depth(method, new ArrayDeque<>()));
        Due.holds("11: calls go " + deepest + " deep", deepest > 0 && deepest <= DEEPEST);
    }

    private static int depth(String method, Deque<String> open) {
        if (open.contains(method)) return 0;
        open.push(method);
        int below = 0;
        for (String called : CALLED.getOrDefault(method, Set.of())) below = Math.max(below, depth(called, open));
        open.pop();
        return below + 1;
    }

    private static final class Reader extends TreePathScanner<Void, Void> {
        private final Trees trees;
        private String method = "";

        Reader(Trees trees) {
            this.trees = trees;
        }

        private Element element(Tree tree) {
            return trees.getElement(new TreePath(getCurrentPath(), tree));
        }

        @Override
        public Void scan(Tree tree, Void nothing) {
            if (tree == null) return null;
            Due.holds("6: no " + tree.getKind() + " in " + method, !FORBIDDEN.contains(tree.getKind()));
            return super.scan(tree, nothing);
        }

        @Override
        public Void visitMethod(MethodTree tree, Void nothing) {
            Element self = trees.getElement(getCurrentPath());
            method = self.getEnclosingElement() + "." + tree.getName();
            CALLED.putIfAbsent(method, new TreeSet<>());
            Due.holds("11: " + method + " takes seven at most", tree.getParameters().size() <= 7);
            Due.holds("6: " + method + " throws nothing", tree.getThrows().isEmpty());
            Due.holds("6: " + method, !Set.of("equals", "hashCode", "toString").contains(tree.getName().toString()));
            super.visitMethod(tree, nothing);
            method = "";
            return null;
        }

        @Override
        public Void visitMethodInvocation(MethodInvocationTree tree, Void nothing) {
            ExecutableElement called = (ExecutableElement) trees.getElement(getCurrentPath());
            String name = called.getEnclosingElement() + "." + called.getSimpleName();
            if (name.startsWith("TwoReels")) CALLED.computeIfAbsent(method, m -> new TreeSet<>()).add(name);
            else Due.holds("4: the library's " + name, isListed(called));
            return super.visitMethodInvocation(tree, nothing);
        }

        private static boolean isListed(ExecutableElement called) {
            String name = called.getSimpleName().toString();
            switch (called.getEnclosingElement().toString()) {
                case "java.lang.Object": return name.equals("<init>");
                case "java.lang.String":
                case "java.lang.StringBuilder": return TEXT.contains(name);
                case "java.util.List":
                case "java.util.ArrayList": return LIST.contains(name);
                case "java.lang.System": return name.equals("arraycopy");
                case "java.util.Arrays": return Set.of("copyOf", "copyOfRange", "fill").contains(name);
                case "java.lang.Integer":
                case "java.lang.Long":
                case "java.lang.Math":
                    return called.getModifiers().contains(Modifier.STATIC) && !name.endsWith("Exact")
                        && !name.equals("random");
                default: return false;
            }
        }

        /** The library's constants are not listed; how long an array is may be asked. */
        @Override
        public Void visitMemberSelect(MemberSelectTree tree, Void nothing) {
            Element self = trees.getElement(getCurrentPath());
            if (self != null && self.getKind() == ElementKind.FIELD) {
                TypeMirror owner = trees.getTypeMirror(new TreePath(getCurrentPath(), tree.getExpression()));
                boolean isOwn = self.getEnclosingElement().toString().startsWith("TwoReels");
                Due.holds("4: the library's " + tree, isOwn || owner.getKind() == TypeKind.ARRAY);
            }
            return super.visitMemberSelect(tree, nothing);
        }

        /** Texts are joined by StringBuilder. */
        @Override
        public Void visitBinary(BinaryTree tree, Void nothing) {
            boolean isText = isText(tree.getLeftOperand()) || isText(tree.getRightOperand());
            Due.holds("6, 10: an operator of texts in " + method, !isText);
            return super.visitBinary(tree, nothing);
        }

        private boolean isText(Tree tree) {
            TypeMirror type = trees.getTypeMirror(new TreePath(getCurrentPath(), tree));
            return type != null && type.toString().equals("java.lang.String");
        }

        @Override
        public Void visitNewClass(NewClassTree tree, Void nothing) {
            String made = element(tree.getIdentifier()).toString();
            Set<String> listed = Set.of("java.lang.String", "java.lang.StringBuilder", "java.util.ArrayList");
            Due.holds("4: a new " + made, listed.contains(made) || made.startsWith("TwoReels."));
            Due.holds("2: no anonymous class in " + method, tree.getClassBody() == null);
            return super.visitNewClass(tree, nothing);
        }

        /** A static field is a constant; arrays of these are written out. */
        @Override
        public Void visitVariable(VariableTree tree, Void nothing) {
            Element self = trees.getElement(getCurrentPath());
            Set<Modifier> modifiers = self.getModifiers();
            Due.holds("3: " + tree.getName() + " is " + self.asType(), isKept(self.asType()));
            if (self.getKind() == ElementKind.FIELD && modifiers.contains(Modifier.STATIC)) {
                Due.holds("5: " + tree.getName() + " is final", modifiers.contains(Modifier.FINAL));
                boolean isRow = self.asType().getKind() == TypeKind.ARRAY;
                Due.holds("5: " + tree.getName() + " is written out", !isRow
                    || tree.getInitializer() instanceof NewArrayTree row && row.getInitializers() != null);
            }
            return super.visitVariable(tree, nothing);
        }

        private static boolean isKept(TypeMirror type) {
            String name = type.toString();
            String part = name.replaceFirst("(\\[])+$", "");
            int dimensions = (name.length() - part.length()) / 2;
            if (PLAIN.contains(part)) return dimensions <= 2;
            boolean isOwn = part.startsWith("TwoReels.");
            return isOwn ? dimensions <= 1 : dimensions == 0 && LISTED.stream().anyMatch(part::matches);
        }

        /** Rows that are constants are never changed, so none of their elements is the target of an assignment. */
        @Override
        public Void visitAssignment(AssignmentTree tree, Void nothing) {
            Tree target = tree.getVariable();
            while (target instanceof ArrayAccessTree access) target = access.getExpression();
            Element changed = element(target);
            boolean isConstant = changed != null && changed.getModifiers().contains(Modifier.STATIC);
            Due.holds("5: a constant changed in " + method, !isConstant);
            return super.visitAssignment(tree, nothing);
        }
    }
}
