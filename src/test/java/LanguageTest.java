import com.sun.source.tree.AnnotationTree;
import com.sun.source.tree.AssertTree;
import com.sun.source.tree.BinaryTree;
import com.sun.source.tree.ClassTree;
import com.sun.source.tree.CompilationUnitTree;
import com.sun.source.tree.EnhancedForLoopTree;
import com.sun.source.tree.ExpressionTree;
import com.sun.source.tree.ForLoopTree;
import com.sun.source.tree.ImportTree;
import com.sun.source.tree.LambdaExpressionTree;
import com.sun.source.tree.LiteralTree;
import com.sun.source.tree.MemberReferenceTree;
import com.sun.source.tree.MemberSelectTree;
import com.sun.source.tree.MethodInvocationTree;
import com.sun.source.tree.MethodTree;
import com.sun.source.tree.NewClassTree;
import com.sun.source.tree.SynchronizedTree;
import com.sun.source.tree.ThrowTree;
import com.sun.source.tree.Tree;
import com.sun.source.tree.TryTree;
import com.sun.source.tree.TypeCastTree;
import com.sun.source.tree.VariableTree;
import com.sun.source.tree.WhileLoopTree;
import com.sun.source.util.JavacTask;
import com.sun.source.util.TreeScanner;
import com.sun.source.util.Trees;
import java.nio.file.Files;
import java.nio.file.Path;
import java.util.Set;
import java.util.TreeSet;
import javax.lang.model.element.Modifier;
import javax.tools.JavaCompiler;
import javax.tools.ToolProvider;

/**
 * The source keeps to the rules of LANGUAGE.md that can be read off its text; where this class does
 * with less than a rule grants (no try, no library object but exceptions), less is asked for.
 */
public final class LanguageTest extends TreeScanner<Void, Void> {
    private static final Set<String> EXCEPTIONS = Set.of("IllegalStateException", "IllegalArgumentException",
        "IndexOutOfBoundsException", "ArithmeticException", "UnsupportedOperationException", "NoSuchElementException",
        "RuntimeException");
    private static final Set<String> LIBRARY = Set.of("Integer.bitCount");

    private final CompilationUnitTree unit;
    private final Trees trees;
    private final Set<String> classes = new TreeSet<>();
    private int wrong = 0;
    private int methods = 0;
    private String inside = "";

    private LanguageTest(CompilationUnitTree unit, Trees trees) {
        this.unit = unit;
        this.trees = trees;
    }

    public static void main(String[] arguments) throws Exception {
        Path source = Path.of(System.getProperty("guild.source", "src/main/java/GivensGuild.java"));
        JavaCompiler compiler = ToolProvider.getSystemJavaCompiler();
        try (var files = compiler.getStandardFileManager(null, null, null)) {
            JavacTask task = (JavacTask) compiler.getTask(null, files, null, null, null,
                files.getJavaFileObjects(source));
            LanguageTest test = new LanguageTest(task.parse().iterator().next(), Trees.instance(task));
            test.signs(Files.readString(source));
            test.scan(test.unit, null);
            test.refuse(test.classes.size() > 12, test.unit, "rule 11: more than 12 classes");
            test.refuse(test.methods < 100, test.unit, "not all methods were seen");
            System.out.println("LanguageTest: " + test.methods + " methods, " + test.wrong + " wrong");
            if (test.wrong > 0) {
                System.exit(1);
            }
        }
    }

    private void refuse(boolean isWrong, Tree at, String what) {
        if (isWrong) {
            wrong++;
            System.out.println("line " + line(start(at)) + inside + ": " + what);
        }
    }

    private long start(Tree tree) {
        return trees.getSourcePositions().getStartPosition(unit, tree);
    }

    private long line(long position) {
        return unit.getLineMap().getLineNumber(position);
    }

    private void signs(String text) {
        refuse(!text.chars().allMatch(sign -> sign == '\n' || sign >= ' ' && sign < 127), unit, "rule 4: another sign");
    }

    @Override
    public Void visitImport(ImportTree tree, Void none) {
        refuse(!tree.getQualifiedIdentifier().toString().equals("java.util.NoSuchElementException"), tree,
            "rule 4: another library");
        return null;
    }

    @Override
    public Void visitClass(ClassTree tree, Void none) {
        classes.add(tree.getSimpleName().toString());
        Set<Modifier> signs = tree.getModifiers().getFlags();
        boolean isFace = tree.getSimpleName().contentEquals("GivensGuild");
        refuse(isFace && !signs.equals(Set.of(Modifier.PUBLIC, Modifier.FINAL)), tree, "rule 1: not public and final");
        refuse(!isFace && !signs.contains(Modifier.STATIC), tree, "rule 2: not static");
        refuse(tree.getExtendsClause() != null, tree, "no class here extends another one");
        long fields = tree.getMembers().stream().filter(member -> member instanceof VariableTree field
            && !field.getModifiers().getFlags().contains(Modifier.STATIC)).count();
        refuse(fields > 20, tree, "rule 11: more than 20 fields");
        refuse(tree.getMembers().stream().anyMatch(member -> member.getKind() == Tree.Kind.BLOCK), tree,
            "rule 5: an initialiser block");
        for (Tree member : tree.getMembers()) {
            if (member instanceof VariableTree field && field.getModifiers().getFlags().contains(Modifier.STATIC)) {
                refuse(!field.getModifiers().getFlags().contains(Modifier.FINAL)
                    || !Set.of("int", "long", "boolean", "char", "String").contains(field.getType().toString()), field,
                    "rule 5: static state");
            }
        }
        return super.visitClass(tree, none);
    }

    @Override
    public Void visitMethod(MethodTree tree, Void none) {
        methods++;
        String before = inside;
        inside = ", " + tree.getName();
        long lines = 1 + line(trees.getSourcePositions().getEndPosition(unit, tree)) - line(start(tree));
        refuse(lines > 60, tree, "rule 11: " + lines + " lines");
        refuse(tree.getParameters().size() > 7, tree, "rule 11: more than 7 parameters");
        refuse(Set.of("equals", "hashCode", "toString").contains(tree.getName().toString()), tree, "rule 6: " + inside);
        super.visitMethod(tree, none);
        inside = before;
        return null;
    }

    @Override
    public Void visitThrow(ThrowTree tree, Void none) {
        boolean isFine = false;
        if (tree.getExpression() instanceof NewClassTree made) {
            isFine = EXCEPTIONS.contains(made.getIdentifier().toString())
                && made.getArguments().stream().allMatch(LiteralTree.class::isInstance);
        }
        refuse(!isFine, tree, "rule 6: another throw");
        refuse(inside.equals(", <init>"), tree, "rule 6: a throw in a constructor");
        return null;
    }

    @Override
    public Void visitNewClass(NewClassTree tree, Void none) {
        refuse(!classes.contains(tree.getIdentifier().toString()) && !Set.of("Lines", "Types", "Members", "Finder")
            .contains(tree.getIdentifier().toString()), tree, "rule 4: " + tree + " is made");
        refuse(!inside.equals(", <init>"), tree, "rule 12: an object is made in a call");
        return super.visitNewClass(tree, none);
    }

    @Override
    public Void visitNewArray(com.sun.source.tree.NewArrayTree tree, Void none) {
        refuse(!inside.isEmpty() && !inside.equals(", <init>"), tree, "rule 12: an array is made in a call");
        return super.visitNewArray(tree, none);
    }

    @Override
    public Void visitMethodInvocation(MethodInvocationTree tree, Void none) {
        if (tree.getMethodSelect() instanceof MemberSelectTree select) {
            ExpressionTree from = select.getExpression();
            boolean isLibrary = Character.isUpperCase(from.toString().charAt(0)) && !from.toString().equals("Finder");
            refuse(isLibrary && !LIBRARY.contains(select.toString()), tree, "rule 4: " + select);
        }
        return super.visitMethodInvocation(tree, none);
    }

    @Override
    public Void visitBinary(BinaryTree tree, Void none) {
        refuse(tree.getKind() == Tree.Kind.PLUS && (tree.getLeftOperand().getKind() == Tree.Kind.STRING_LITERAL
            || tree.getRightOperand().getKind() == Tree.Kind.STRING_LITERAL), tree, "rule 10: texts are joined");
        return super.visitBinary(tree, none);
    }

    @Override
    public Void visitForLoop(ForLoopTree tree, Void none) {
        refuse(tree.getCondition() == null, tree, "rule 9: a loop without an end");
        return super.visitForLoop(tree, none);
    }

    // What this class does without

    @Override
    public Void visitWhileLoop(WhileLoopTree tree, Void none) {
        refuse(true, tree, "rule 9: a loop without a counter");
        return super.visitWhileLoop(tree, none);
    }

    @Override
    public Void visitEnhancedForLoop(EnhancedForLoopTree tree, Void none) {
        refuse(true, tree, "rule 12: a loop over a list");
        return super.visitEnhancedForLoop(tree, none);
    }

    @Override
    public Void visitTry(TryTree tree, Void none) {
        refuse(true, tree, "rule 6: try");
        return super.visitTry(tree, none);
    }

    @Override
    public Void visitTypeCast(TypeCastTree tree, Void none) {
        refuse(!Set.of("float", "double").contains(tree.getType().toString()), tree, "rule 6: a cast");
        return super.visitTypeCast(tree, none);
    }

    @Override
    public Void visitLambdaExpression(LambdaExpressionTree tree, Void none) {
        refuse(true, tree, "rule 2: a lambda");
        return null;
    }

    @Override
    public Void visitMemberReference(MemberReferenceTree tree, Void none) {
        refuse(true, tree, "rule 2: a method reference");
        return null;
    }

    @Override
    public Void visitAssert(AssertTree tree, Void none) {
        refuse(true, tree, "rule 6: assert");
        return null;
    }

    @Override
    public Void visitSynchronized(SynchronizedTree tree, Void none) {
        refuse(true, tree, "rule 6: synchronized");
        return null;
    }

    @Override
    public Void visitAnnotation(AnnotationTree tree, Void none) {
        refuse(true, tree, "rule 4: an annotation");
        return null;
    }
}
