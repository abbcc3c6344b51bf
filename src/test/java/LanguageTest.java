import com.sun.source.tree.AssertTree;
import com.sun.source.tree.BinaryTree;
import com.sun.source.tree.ClassTree;
import com.sun.source.tree.CompilationUnitTree;
import com.sun.source.tree.ExpressionTree;
import com.sun.source.tree.IdentifierTree;
import com.sun.source.tree.ImportTree;
import com.sun.source.tree.LambdaExpressionTree;
import com.sun.source.tree.LiteralTree;
import com.sun.source.tree.MemberReferenceTree;
import com.sun.source.tree.MemberSelectTree;
import com.sun.source.tree.MethodTree;
import com.sun.source.tree.NewClassTree;
import com.sun.source.tree.SynchronizedTree;
import com.sun.source.tree.ThrowTree;
import com.sun.source.tree.Tree;
import com.sun.source.tree.TryTree;
import com.sun.source.tree.VariableTree;
import com.sun.source.util.JavacTask;
import com.sun.source.util.TreeScanner;
import com.sun.source.util.Trees;
import java.io.IOException;
import java.nio.file.Path;
import java.util.List;
import java.util.Set;
import javax.lang.model.element.Modifier;
import javax.tools.JavaCompiler;
import javax.tools.StandardJavaFileManager;
import javax.tools.ToolProvider;

/** Those rules of ../shared/LANGUAGE.md that can be read off the program's text. */
public final class LanguageTest {
    private static final Set<String> EXCEPTIONS = Set.of("IllegalStateException", "IllegalArgumentException",
        "IndexOutOfBoundsException", "ArithmeticException", "UnsupportedOperationException",
        "NoSuchElementException", "RuntimeException");
    private static final Set<String> IMPORTS = Set.of("java.util.ArrayList", "java.util.List", "java.util.Arrays",
        "java.util.Iterator", "java.util.NoSuchElementException");
    private static final Set<String> LIBRARY = Set.of("System.arraycopy", "Arrays.copyOf", "Arrays.copyOfRange",
        "Arrays.fill", "List.of", "Integer.compare", "Long.compare", "Integer.bitCount", "Long.bitCount",
        "Math.max", "Math.min", "Math.abs", "Math.floorDiv", "Math.floorMod", "Integer.MAX_VALUE",
        "Integer.MIN_VALUE", "Long.MAX_VALUE", "Long.MIN_VALUE");
    private static final Set<String> LIBRARY_CLASSES = Set.of("System", "Arrays", "List", "Integer", "Long", "Math");

    private LanguageTest() {
    }

    public static void main(String[] args) throws IOException {
        JavaCompiler compiler = ToolProvider.getSystemJavaCompiler();
        try (StandardJavaFileManager files = compiler.getStandardFileManager(null, null, null)) {
            JavacTask task = (JavacTask) compiler.getTask(null, files, null, List.of("-proc:none"), null,
                files.getJavaFileObjects(Path.of("src/main/java/CannonStacks.java")));
            Trees trees = Trees.instance(task);
            for (CompilationUnitTree unit : task.parse()) {
                Check.same("no package line", unit.getPackage(), null);
                Rules rules = new Rules(unit, trees);
                rules.scan(unit, null);
                holds("11: the file has some twelve classes at most", rules.classes <= 12, unit);
            }
        }
        Check.end();
    }

    private static void holds(String rule, boolean holds, Tree where) {
        String text = where.toString();
        Check.same("rule " + rule + ": " + text.substring(0, Math.min(80, text.length())), holds, true);
    }

    private static final class Rules extends TreeScanner<Void, Void> {
        private final CompilationUnitTree unit;
        private final Trees trees;
        private int classes;
        private boolean inConstructor;
        private boolean throwsHere;
        private boolean triesHere;

        Rules(CompilationUnitTree unit, Trees trees) {
            this.unit = unit;
            this.trees = trees;
        }

        private int linesOf(Tree tree) {
            long from = trees.getSourcePositions().getStartPosition(unit, tree);
            long to = trees.getSourcePositions().getEndPosition(unit, tree);
            return (int) (unit.getLineMap().getLineNumber(to) - unit.getLineMap().getLineNumber(from)) + 1;
        }

        @Override
        public Void visitImport(ImportTree tree, Void none) {
            holds("4: the library", IMPORTS.contains(tree.getQualifiedIdentifier().toString()), tree);
            return super.visitImport(tree, none);
        }

        @Override
        public Void visitClass(ClassTree tree, Void none) {
            classes++;
            int fields = 0;
            for (Tree member : tree.getMembers()) {
                holds("5: no initialiser block", member.getKind() != Tree.Kind.BLOCK, member);
                if (member instanceof VariableTree field) {
                    Set<Modifier> its = field.getModifiers().getFlags();
                    boolean constant = its.contains(Modifier.STATIC);
                    holds("5: static fields are final", !constant || its.contains(Modifier.FINAL), field);
                    fields += constant ? 0 : 1;
                }
            }
            holds("11: some twenty fields at most", fields <= 20, tree);
            return super.visitClass(tree, none);
        }

        @Override
        public Void visitMethod(MethodTree tree, Void none) {
            String name = tree.getName().toString();
            holds("11: seven parameters at most", tree.getParameters().size() <= 7, tree);
            holds("11: some sixty lines at most", linesOf(tree) <= 60, tree);
            holds("6: no equals, hashCode, toString", !Set.of("equals", "hashCode", "toString").contains(name), tree);
            inConstructor = name.equals("<init>");
            throwsHere = false;
            triesHere = false;
            super.visitMethod(tree, none);
            holds("6: no try in the method that holds the throw", !throwsHere || !triesHere, tree);
            inConstructor = false;
            return null;
        }

        @Override
        public Void visitThrow(ThrowTree tree, Void none) {
            throwsHere = true;
            holds("6: no throw in a constructor", !inConstructor, tree);
            boolean plain = tree.getExpression() instanceof NewClassTree made
                && EXCEPTIONS.contains(made.getIdentifier().toString())
                && made.getArguments().size() <= 1
                && made.getArguments().stream().allMatch(a -> a instanceof LiteralTree);
            holds("6: throw new E() or E(\"a written text\")", plain, tree);
            return super.visitThrow(tree, none);
        }

        @Override
        public Void visitTry(TryTree tree, Void none) {
            triesHere = true;
            holds("6: no finally, no resources", tree.getFinallyBlock() == null && tree.getResources().isEmpty(), tree);
            return super.visitTry(tree, none);
        }

        @Override
        public Void visitMemberSelect(MemberSelectTree tree, Void none) {
            ExpressionTree of = tree.getExpression();
            if (of instanceof IdentifierTree && LIBRARY_CLASSES.contains(of.toString())) {
                holds("4: the library", LIBRARY.contains(tree.toString()), tree);
            }
            return super.visitMemberSelect(tree, none);
        }

        @Override
        public Void visitBinary(BinaryTree tree, Void none) {
            holds("10: texts are not joined by +", tree.getKind() != Tree.Kind.PLUS
                || !isText(tree.getLeftOperand()) && !isText(tree.getRightOperand()), tree);
            return super.visitBinary(tree, none);
        }

        private static boolean isText(ExpressionTree tree) {
            return tree.getKind() == Tree.Kind.STRING_LITERAL;
        }

        @Override
        public Void visitLambdaExpression(LambdaExpressionTree tree, Void none) {
            holds("2: no lambda", false, tree);
            return super.visitLambdaExpression(tree, none);
        }

        @Override
        public Void visitMemberReference(MemberReferenceTree tree, Void none) {
            holds("2: no method reference", false, tree);
            return super.visitMemberReference(tree, none);
        }

        @Override
        public Void visitSynchronized(SynchronizedTree tree, Void none) {
            holds("6: no synchronized", false, tree);
            return super.visitSynchronized(tree, none);
        }

        @Override
        public Void visitAssert(AssertTree tree, Void none) {
            holds("6: no assert", false, tree);
            return super.visitAssert(tree, none);
        }
    }
}
