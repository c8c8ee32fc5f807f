import com.sun.source.tree.AssertTree;
import com.sun.source.tree.BinaryTree;
import com.sun.source.tree.BlockTree;
import com.sun.source.tree.ClassTree;
import com.sun.source.tree.CompilationUnitTree;
import com.sun.source.tree.DoWhileLoopTree;
import com.sun.source.tree.ExpressionTree;
import com.sun.source.tree.ForLoopTree;
import com.sun.source.tree.ImportTree;
import com.sun.source.tree.LambdaExpressionTree;
import com.sun.source.tree.MemberReferenceTree;
import com.sun.source.tree.MethodInvocationTree;
import com.sun.source.tree.MethodTree;
import com.sun.source.tree.NewArrayTree;
import com.sun.source.tree.NewClassTree;
import com.sun.source.tree.SynchronizedTree;
import com.sun.source.tree.ThrowTree;
import com.sun.source.tree.Tree;
import com.sun.source.tree.TryTree;
import com.sun.source.tree.VariableTree;
import com.sun.source.tree.WhileLoopTree;
import com.sun.source.util.JavacTask;
import com.sun.source.util.TreePath;
import com.sun.source.util.TreePathScanner;
import com.sun.source.util.Trees;
import java.io.IOException;
import java.nio.file.Files;
import java.nio.file.Path;
import java.util.LinkedHashMap;
import java.util.LinkedHashSet;
import java.util.List;
import java.util.Map;
import java.util.Set;
import javax.lang.model.element.Element;
import javax.lang.model.element.Modifier;
import javax.lang.model.element.VariableElement;
import javax.lang.model.type.ArrayType;
import javax.lang.model.type.DeclaredType;
import javax.lang.model.type.TypeKind;
import javax.lang.model.type.TypeMirror;
import javax.tools.JavaCompiler;
import javax.tools.StandardJavaFileManager;
import javax.tools.ToolProvider;

/** LANGUAGE.md, rule by rule, as far as the file's own tree shows it; some of it tighter than the rule, as the class needs less. */
public final class LanguageTest {
    private static final Check check = new Check("LanguageTest");
    private static final Path FILE = Path.of("src/main/java/SwitchBook.java");
    private static final int MOST_PARAMETERS = 7, MOST_LINES = 60, MOST_DEPTH = 8, MOST_CLASSES = 12, MOST_FIELDS = 20;

    public static void main(String[] args) throws IOException {
        letters();
        JavaCompiler compiler = ToolProvider.getSystemJavaCompiler();
        try (StandardJavaFileManager files = compiler.getStandardFileManager(null, null, null)) {
            JavacTask task = (JavacTask) compiler.getTask(null, files, null, List.of("-proc:none"), null, files.getJavaFileObjects(FILE));
            CompilationUnitTree unit = task.parse().iterator().next();
            task.analyze();
            Rules rules = new Rules(Trees.instance(task), unit);
            rules.scan(unit, null);
            rules.callDepth();
        }
        check.end();
    }

    /** Rule 4: a text's signs are 1 to 127; the file has no others at all. */
    private static void letters() throws IOException {
        for (byte letter : Files.readAllBytes(FILE)) {
            if (letter < 1) check.due("rule 4: a letter beyond 127", letter & 255, 127);
        }
    }

    private static final class Rules extends TreePathScanner<Void, Void> {
        private final Trees trees;
        private final CompilationUnitTree unit;
        private final Map<Element, Set<Element>> calls = new LinkedHashMap<>();
        private Element caller;
        private int classes;

        Rules(Trees trees, CompilationUnitTree unit) {
            this.trees = trees;
            this.unit = unit;
        }

        private long line(Tree tree, boolean end) {
            long place = end ? trees.getSourcePositions().getEndPosition(unit, tree) : trees.getSourcePositions().getStartPosition(unit, tree);
            return unit.getLineMap().getLineNumber(place);
        }

        private void due(int rule, Tree tree, String what, boolean holds) {
            check.due("rule " + rule + ", line " + line(tree, false) + ": " + what, holds ? 1 : 0, 1);
        }

        private Element element(Tree tree) {
            return trees.getElement(TreePath.getPath(unit, tree));
        }

        private boolean isOwn(Element e) {
            for (Element outer = e; outer != null; outer = outer.getEnclosingElement()) {
                if (outer.getSimpleName().contentEquals("SwitchBook")) return true;
            }
            return false;
        }

        // ---- rules 1, 2, 4: the file and its classes

        @Override
        public Void visitCompilationUnit(CompilationUnitTree tree, Void none) {
            due(1, tree, "no package", tree.getPackageName() == null);
            due(1, tree, "one class in the file", tree.getTypeDecls().size() == 1);
            super.visitCompilationUnit(tree, none);
            due(11, tree, "classes", classes <= MOST_CLASSES);
            return null;
        }

        @Override
        public Void visitImport(ImportTree tree, Void none) {
            String name = tree.getQualifiedIdentifier().toString();
            due(4, tree, "import " + name, Set.of("java.util.Arrays", "java.util.ArrayList", "java.util.List").contains(name));
            return super.visitImport(tree, none);
        }

        @Override
        public Void visitClass(ClassTree tree, Void none) {
            classes++;
            Tree around = getCurrentPath().getParentPath().getLeaf();
            boolean outer = around instanceof CompilationUnitTree;
            Set<Modifier> flags = tree.getModifiers().getFlags();
            due(2, tree, "no local or anonymous class", outer || around instanceof ClassTree);
            due(2, tree, "static inside", outer || flags.contains(Modifier.STATIC));
            due(1, tree, "not open", outer || !flags.contains(Modifier.PUBLIC) && !flags.contains(Modifier.PROTECTED));
            long fields = tree.getMembers().stream()
                .filter(m -> m instanceof VariableTree v && !v.getModifiers().getFlags().contains(Modifier.STATIC)).count();
            due(11, tree, "fields", fields <= MOST_FIELDS);
            return super.visitClass(tree, none);
        }

        // ---- rules 3, 5, 12: what is held

        private boolean isPlainType(TypeMirror type) {
            return type.getKind().isPrimitive() || type instanceof DeclaredType declared && isOwn(declared.asElement());
        }

        @Override
        public Void visitVariable(VariableTree tree, Void none) {
            TypeMirror type = trees.getTypeMirror(getCurrentPath());
            TypeMirror held = type instanceof ArrayType a ? a.getComponentType() : type;
            due(3, tree, "type of " + tree.getName() + ": " + type, isPlainType(held));
            Set<Modifier> flags = tree.getModifiers().getFlags();
            if (flags.contains(Modifier.STATIC)) {
                due(5, tree, tree.getName() + " is a constant", flags.contains(Modifier.FINAL) && type.getKind() == TypeKind.INT);
            }
            return super.visitVariable(tree, none);
        }

        @Override
        public Void visitBlock(BlockTree tree, Void none) {
            due(5, tree, "no initialiser block", !(getCurrentPath().getParentPath().getLeaf() instanceof ClassTree));
            return super.visitBlock(tree, none);
        }

        @Override
        public Void visitNewClass(NewClassTree tree, Void none) {
            due(2, tree, "no anonymous class", tree.getClassBody() == null);
            due(12, tree, "made with the object alone", caller == null && isOwn(element(tree)));
            return super.visitNewClass(tree, none);
        }

        @Override
        public Void visitNewArray(NewArrayTree tree, Void none) {
            due(12, tree, "made with the object alone", caller == null);
            due(7, tree, "a length that is a constant", tree.getDimensions().size() == 1
                && element(tree.getDimensions().get(0)) instanceof VariableElement length
                && length.getConstantValue() instanceof Integer n && n > 0);
            return super.visitNewArray(tree, none);
        }

        // ---- rules 8, 11: methods and their calls

        @Override
        public Void visitMethod(MethodTree tree, Void none) {
            Element method = trees.getElement(getCurrentPath());
            due(11, tree, tree.getName() + ": parameters", tree.getParameters().size() <= MOST_PARAMETERS);
            due(11, tree, tree.getName() + ": lines", line(tree, true) - line(tree, false) < MOST_LINES);
            due(6, tree, tree.getName() + ": throws nothing", tree.getThrows().isEmpty());
            due(6, tree, tree.getName() + ": no equals, hashCode, toString", !Set.of("equals", "hashCode", "toString").contains(tree.getName().toString()));
            calls.put(method, new LinkedHashSet<>());
            Element around = caller;
            caller = method;
            super.visitMethod(tree, none);
            caller = around;
            return null;
        }

        @Override
        public Void visitMethodInvocation(MethodInvocationTree tree, Void none) {
            Element called = element(tree);
            if (isOwn(called)) {
                due(12, tree, called + " is called by a method", caller != null);
                if (caller != null) calls.get(caller).add(called);
            } else if (!called.getSimpleName().contentEquals("<init>")) {
                String name = called.getEnclosingElement().getSimpleName() + "." + called.getSimpleName();
                boolean number = name.matches("(Integer|Long|Math)\\.\\w+") && !name.endsWith("Exact") && called.getModifiers().contains(Modifier.STATIC);
                boolean rows = Set.of("Arrays.fill", "Arrays.copyOf", "Arrays.copyOfRange", "System.arraycopy").contains(name);
                due(4, tree, "the library's " + name, number || rows);
            }
            return super.visitMethodInvocation(tree, none);
        }

        /** Rule 8, 11: no method calls itself, and calls go at most eight deep. */
        void callDepth() {
            for (Element method : calls.keySet()) {
                int depth = depth(method, 1);
                check.due("rule 11: how deep calls go from " + method + ": " + depth, depth <= MOST_DEPTH ? 1 : 0, 1);
            }
        }

        private int depth(Element method, int open) {
            int deepest = open;
            for (Element called : calls.getOrDefault(method, Set.of())) {
                if (open > MOST_DEPTH) return open;
                deepest = Math.max(deepest, depth(called, open + 1));
            }
            return deepest;
        }

        // ---- rules 2, 6: what may not stand at all

        @Override
        public Void visitLambdaExpression(LambdaExpressionTree tree, Void none) {
            due(2, tree, "no lambda", false);
            return super.visitLambdaExpression(tree, none);
        }

        @Override
        public Void visitMemberReference(MemberReferenceTree tree, Void none) {
            due(2, tree, "no method reference", false);
            return super.visitMemberReference(tree, none);
        }

        @Override
        public Void visitThrow(ThrowTree tree, Void none) {
            due(6, tree, "no throw", false);
            return super.visitThrow(tree, none);
        }

        @Override
        public Void visitTry(TryTree tree, Void none) {
            due(6, tree, "no try", false);
            return super.visitTry(tree, none);
        }

        @Override
        public Void visitSynchronized(SynchronizedTree tree, Void none) {
            due(6, tree, "no synchronized", false);
            return super.visitSynchronized(tree, none);
        }

        @Override
        public Void visitAssert(AssertTree tree, Void none) {
            due(6, tree, "no assert", false);
            return super.visitAssert(tree, none);
        }

        // ---- rules 7, 9, 10: loops, division, joining

        private void dueCondition(Tree loop, ExpressionTree condition) {
            due(9, loop, "a loop has a condition", condition != null && !condition.toString().matches("\\(?true\\)?"));
        }

        @Override
        public Void visitForLoop(ForLoopTree tree, Void none) {
            dueCondition(tree, tree.getCondition());
            due(9, tree, "a for counts", !tree.getUpdate().isEmpty());
            return super.visitForLoop(tree, none);
        }

        @Override
        public Void visitWhileLoop(WhileLoopTree tree, Void none) {
            dueCondition(tree, tree.getCondition());
            due(9, tree, "a while looks at a bound", tree.getCondition().toString().contains("<"));
            return super.visitWhileLoop(tree, none);
        }

        @Override
        public Void visitDoWhileLoop(DoWhileLoopTree tree, Void none) {
            dueCondition(tree, tree.getCondition());
            return super.visitDoWhileLoop(tree, none);
        }

        @Override
        public Void visitBinary(BinaryTree tree, Void none) {
            TypeMirror type = trees.getTypeMirror(getCurrentPath());
            due(10, tree, "an operator answers a number or a truth, no text: " + type, type.getKind().isPrimitive());
            return super.visitBinary(tree, none);
        }
    }
}
