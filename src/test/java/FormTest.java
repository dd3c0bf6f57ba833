import com.sun.source.tree.AssertTree;
import com.sun.source.tree.ClassTree;
import com.sun.source.tree.CompilationUnitTree;
import com.sun.source.tree.ImportTree;
import com.sun.source.tree.LambdaExpressionTree;
import com.sun.source.tree.MemberReferenceTree;
import com.sun.source.tree.MemberSelectTree;
import com.sun.source.tree.MethodTree;
import com.sun.source.tree.NewClassTree;
import com.sun.source.tree.SynchronizedTree;
import com.sun.source.tree.ThrowTree;
import com.sun.source.tree.Tree;
import com.sun.source.tree.TryTree;
import com.sun.source.tree.VariableTree;
import com.sun.source.util.JavacTask;
import com.sun.source.util.SourcePositions;
import com.sun.source.util.TreePathScanner;
import com.sun.source.util.Trees;
import java.nio.file.Files;
import java.nio.file.Path;
import java.util.List;
import java.util.Set;
import java.util.stream.Stream;
import javax.lang.model.element.Modifier;
import javax.tools.JavaCompiler;
import javax.tools.StandardJavaFileManager;
import javax.tools.ToolProvider;

/** The rules of LANGUAGE.md that can be read off the source of PackageRows2. */
public final class FormTest {
    private static final Path FOLDER = Path.of("src/main/java");
    private static final Path FILE = FOLDER.resolve("PackageRows2.java");
    /** The last one is not in rule 6's list: the document names it for at(). */
    private static final Set<String> THROWN = Set.of(
        "IllegalStateException", "IllegalArgumentException", "IndexOutOfBoundsException", "ArithmeticException",
        "UnsupportedOperationException", "NoSuchElementException", "RuntimeException",
        "ArrayIndexOutOfBoundsException");
    private static final Set<String> LIBRARY_USED = Set.of("Math.max", "Math.min");
    private static final Set<String> LIBRARY_NAMES = Set.of(
        "Math", "Integer", "Long", "System", "Arrays", "String", "List", "Thread", "Object", "Character");

    public static void main(String[] args) throws Exception {
        oneFile();
        theSource();
        Due.end();
    }

    private static void yes(String what, boolean holds) {
        Due.same(what, holds ? 1 : 0, 1);
    }

    private static void oneFile() throws Exception {
        try (Stream<Path> all = Files.walk(FOLDER)) {
            yes("one file under src/main/java", all.filter(Files::isRegularFile).toList().equals(List.of(FILE)));
        }
    }

    private static void theSource() throws Exception {
        JavaCompiler compiler = ToolProvider.getSystemJavaCompiler();
        try (StandardJavaFileManager files = compiler.getStandardFileManager(null, null, null)) {
            JavacTask task = (JavacTask) compiler.getTask(null, files, null, null, null,
                files.getJavaFileObjects(FILE));
            Scanner scanner = new Scanner(Trees.instance(task).getSourcePositions());
            for (CompilationUnitTree unit : task.parse()) {
                yes("no package line", unit.getPackage() == null);
                scanner.scan(unit, null);
            }
            yes("rule 11: some twelve classes at most, not " + scanner.classes,
                scanner.classes >= 1 && scanner.classes <= 12);
            yes("rule 11: methods were looked at", scanner.methods > 20);
        }
    }

    private static final class Scanner extends TreePathScanner<Void, Void> {
        private final SourcePositions positions;
        private int classes = 0;
        private int methods = 0;

        Scanner(SourcePositions positions) {
            this.positions = positions;
        }

        private void refuse(String what, Tree tree) {
            yes(what + ": " + tree, false);
        }

        private long linesOf(Tree tree) {
            CompilationUnitTree unit = getCurrentPath().getCompilationUnit();
            return unit.getLineMap().getLineNumber(positions.getEndPosition(unit, tree))
                - unit.getLineMap().getLineNumber(positions.getStartPosition(unit, tree)) + 1;
        }

        @Override
        public Void visitImport(ImportTree tree, Void none) {
            yes("rule 4: " + tree,
                tree.getQualifiedIdentifier().toString().equals("java.util.NoSuchElementException"));
            return null;
        }

        @Override
        public Void visitClass(ClassTree tree, Void none) {
            classes++;
            int fields = 0;
            for (Tree member : tree.getMembers()) {
                if (member instanceof VariableTree field) {
                    Set<Modifier> modifiers = field.getModifiers().getFlags();
                    boolean isStatic = modifiers.contains(Modifier.STATIC);
                    yes("rule 5: " + field, !isStatic || modifiers.contains(Modifier.FINAL));
                    fields += isStatic ? 0 : 1;
                }
                yes("rule 5: no initialiser block", member.getKind() != Tree.Kind.BLOCK);
            }
            yes("rule 11: fields of " + tree.getSimpleName(), fields <= 20);
            Tree around = getCurrentPath().getParentPath().getLeaf();
            yes("rule 2: no local class", around instanceof ClassTree || around instanceof CompilationUnitTree);
            return super.visitClass(tree, none);
        }

        @Override
        public Void visitMethod(MethodTree tree, Void none) {
            methods++;
            yes("rule 11: parameters of " + tree.getName(), tree.getParameters().size() <= 7);
            yes("rule 11: lines of " + tree.getName(), linesOf(tree) <= 60);
            Set<Modifier> modifiers = tree.getModifiers().getFlags();
            yes("rule 6: no synchronized " + tree.getName(), !modifiers.contains(Modifier.SYNCHRONIZED));
            yes("rule 6: no equals, hashCode, toString",
                !Set.of("equals", "hashCode", "toString").contains(tree.getName().toString()));
            return super.visitMethod(tree, none);
        }

        @Override
        public Void visitThrow(ThrowTree tree, Void none) {
            boolean made = tree.getExpression() instanceof NewClassTree;
            yes("rule 6: " + tree,
                made && THROWN.contains(((NewClassTree) tree.getExpression()).getIdentifier().toString()));
            for (Tree above : getCurrentPath()) {
                boolean constructor = above instanceof MethodTree method && method.getReturnType() == null;
                yes("rule 6: no throw in a constructor", !constructor);
            }
            return super.visitThrow(tree, none);
        }

        @Override
        public Void visitMemberSelect(MemberSelectTree tree, Void none) {
            if (LIBRARY_NAMES.contains(tree.getExpression().toString())) {
                yes("rule 4: " + tree, LIBRARY_USED.contains(tree.toString()));
            }
            return super.visitMemberSelect(tree, none);
        }

        @Override
        public Void visitTry(TryTree tree, Void none) {
            refuse("no machine's exception is caught, so there is no try", tree);
            return super.visitTry(tree, none);
        }

        @Override
        public Void visitLambdaExpression(LambdaExpressionTree tree, Void none) {
            refuse("rule 2: no lambda", tree);
            return super.visitLambdaExpression(tree, none);
        }

        @Override
        public Void visitMemberReference(MemberReferenceTree tree, Void none) {
            refuse("rule 2: no method reference", tree);
            return super.visitMemberReference(tree, none);
        }

        @Override
        public Void visitSynchronized(SynchronizedTree tree, Void none) {
            refuse("rule 6: no synchronized", tree);
            return super.visitSynchronized(tree, none);
        }

        @Override
        public Void visitAssert(AssertTree tree, Void none) {
            refuse("rule 6: no assert", tree);
            return super.visitAssert(tree, none);
        }
    }
}
