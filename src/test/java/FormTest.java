import com.sun.source.tree.AssertTree;
import com.sun.source.tree.BlockTree;
import com.sun.source.tree.ClassTree;
import com.sun.source.tree.CompilationUnitTree;
import com.sun.source.tree.ExpressionTree;
import com.sun.source.tree.ImportTree;
import com.sun.source.tree.LambdaExpressionTree;
import com.sun.source.tree.LiteralTree;
import com.sun.source.tree.MemberReferenceTree;
import com.sun.source.tree.MemberSelectTree;
import com.sun.source.tree.MethodInvocationTree;
import com.sun.source.tree.MethodTree;
import com.sun.source.tree.NewArrayTree;
import com.sun.source.tree.NewClassTree;
import com.sun.source.tree.SynchronizedTree;
import com.sun.source.tree.ThrowTree;
import com.sun.source.tree.Tree;
import com.sun.source.tree.TryTree;
import com.sun.source.tree.TypeCastTree;
import com.sun.source.tree.VariableTree;
import com.sun.source.util.JavacTask;
import com.sun.source.util.SourcePositions;
import com.sun.source.util.TreeScanner;
import com.sun.source.util.Trees;
import java.io.File;
import java.util.List;
import java.util.Set;
import java.util.TreeSet;
import javax.lang.model.element.Modifier;
import javax.tools.JavaCompiler;
import javax.tools.StandardJavaFileManager;
import javax.tools.ToolProvider;

/**
 * The form of src/main/java/NestTables.java, as far as it can be seen from its text (LANGUAGE.md). It is held to what the
 * class uses of the rules, which is less than they allow: what is new there is looked at here, too.
 */
public final class FormTest extends TreeScanner<Void, Void> {
    private static final String FILE = "src/main/java/NestTables.java";
    private static final Set<String> IMPORTS = Set.of("java.util.Arrays");
    private static final Set<String> LIBRARY = Set.of("Arrays.fill", "System.arraycopy", "Math.max");
    private static final Set<String> TYPES = Set.of("int", "double", "boolean", "void");
    private static final int MOST_PARAMETERS = 7, MOST_LINES = 60, MOST_CLASSES = 12, MOST_FIELDS = 20;

    private final CompilationUnitTree unit;
    private final SourcePositions positions;
    private final Set<String> classes = new TreeSet<>();
    private final Set<String> open = new TreeSet<>();
    private final Set<String> hidden = new TreeSet<>();
    private int looked;

    private FormTest(CompilationUnitTree unit, SourcePositions positions) {
        this.unit = unit;
        this.positions = positions;
    }

    public static void main(String[] args) throws Exception {
        JavaCompiler compiler = ToolProvider.getSystemJavaCompiler();
        try (StandardJavaFileManager files = compiler.getStandardFileManager(null, null, null)) {
            JavacTask task = (JavacTask) compiler.getTask(null, files, null, List.of(), null,
                    files.getJavaFileObjects(new File(FILE)));
            CompilationUnitTree unit = task.parse().iterator().next();
            new FormTest(unit, Trees.instance(task).getSourcePositions()).judge();
        }
        Due.end();
    }

    private void judge() {
        Due.is("classes that are not inside another", unit.getTypeDecls().size(), 1);
        Due.is("rule 1: a package line", unit.getPackage() == null ? 0 : 1, 0);
        nameClasses((ClassTree) unit.getTypeDecls().get(0));
        Due.is("rule 11: too many classes", classes.size() > MOST_CLASSES ? classes.size() : 0, 0);
        scan(unit, null);
        hidden.retainAll(open);
        Due.text("rule 1: private methods with the name of a public one", hidden.toString(), "[]");
        Due.is("something was looked at", looked > 100 ? 1 : 0, 1);
    }

    private void nameClasses(ClassTree tree) {
        classes.add(tree.getSimpleName().toString());
        for (Tree member : tree.getMembers()) {
            if (member instanceof ClassTree) {
                nameClasses((ClassTree) member);
            }
        }
    }

    private void allowed(boolean fine, String rule, Tree tree) {
        looked++;
        if (!fine) {
            Due.tell("line " + lineOf(positions.getStartPosition(unit, tree)) + ", " + rule + ": " + tree);
        }
    }

    private long lineOf(long position) {
        return unit.getLineMap().getLineNumber(position);
    }

    private boolean isType(Tree type) {
        String name = type.toString();
        return TYPES.contains(name.replace("[]", "")) && !name.endsWith("[][][]") || classes.contains(name.replaceFirst("\\[\\]$", ""));
    }

    // Rules 1 and 2: classes and what is in them

    @Override
    public Void visitClass(ClassTree tree, Void none) {
        Set<Modifier> flags = tree.getModifiers().getFlags();
        boolean outermost = flags.contains(Modifier.PUBLIC);
        allowed(outermost ? flags.contains(Modifier.FINAL) : flags.contains(Modifier.STATIC), "rule 1", tree);
        int fields = 0;
        for (Tree member : tree.getMembers()) {
            allowed(!(member instanceof BlockTree), "rule 5, an initialiser block", member);
            if (member instanceof VariableTree) {
                fields += isField((VariableTree) member) ? 1 : 0;
            }
        }
        Due.is("rule 11: too many fields of " + tree.getSimpleName(), fields > MOST_FIELDS ? fields : 0, 0);
        return super.visitClass(tree, none);
    }

    private boolean isField(VariableTree tree) {
        Set<Modifier> flags = tree.getModifiers().getFlags();
        boolean constant = flags.contains(Modifier.STATIC);
        allowed(!constant || flags.contains(Modifier.FINAL) && tree.getType().toString().equals("int"), "rule 5", tree);
        return !constant;
    }

    @Override
    public Void visitMethod(MethodTree tree, Void none) {
        boolean isPublic = tree.getModifiers().getFlags().contains(Modifier.PUBLIC);
        (isPublic ? open : hidden).add(tree.getName().toString());
        allowed(tree.getParameters().size() <= MOST_PARAMETERS, "rule 11, parameters", tree);
        long first = lineOf(positions.getStartPosition(unit, tree));
        long last = lineOf(positions.getEndPosition(unit, tree));
        allowed(last - first < MOST_LINES, "rule 11, lines", tree);
        allowed(tree.getThrows().isEmpty() && tree.getTypeParameters().isEmpty(), "throws or a type of its own", tree);
        allowed(tree.getReturnType() == null || isType(tree.getReturnType()), "rule 3", tree);
        return super.visitMethod(tree, none);
    }

    // Rules 3 and 4: types and the library

    @Override
    public Void visitImport(ImportTree tree, Void none) {
        allowed(!tree.isStatic() && IMPORTS.contains(tree.getQualifiedIdentifier().toString()), "rule 4", tree);
        return null;
    }

    @Override
    public Void visitVariable(VariableTree tree, Void none) {
        allowed(isType(tree.getType()), "rule 3", tree);
        return super.visitVariable(tree, none);
    }

    @Override
    public Void visitNewArray(NewArrayTree tree, Void none) {
        allowed(tree.getType() != null && isType(tree.getType()) && tree.getDimensions().size() == 1, "rule 3", tree);
        return super.visitNewArray(tree, none);
    }

    @Override
    public Void visitNewClass(NewClassTree tree, Void none) {
        allowed(classes.contains(tree.getIdentifier().toString()) && tree.getClassBody() == null, "rule 2", tree);
        return super.visitNewClass(tree, none);
    }

    @Override
    public Void visitTypeCast(TypeCastTree tree, Void none) {
        allowed(TYPES.contains(tree.getType().toString()), "rule 6, a cast", tree);
        return super.visitTypeCast(tree, none);
    }

    @Override
    public Void visitLiteral(LiteralTree tree, Void none) {
        allowed(tree.getKind() != Tree.Kind.STRING_LITERAL, "rule 10, a text", tree);
        return null;
    }

    @Override
    public Void visitMethodInvocation(MethodInvocationTree tree, Void none) {
        ExpressionTree called = tree.getMethodSelect();
        boolean own = !(called instanceof MemberSelectTree) && !called.toString().equals("this");
        allowed(own || LIBRARY.contains(called.toString()), "rule 4", tree);
        return super.visitMethodInvocation(tree, none);
    }

    // What the class does without

    @Override
    public Void visitThrow(ThrowTree tree, Void none) {
        allowed(false, "no call throws", tree);
        return null;
    }

    @Override
    public Void visitTry(TryTree tree, Void none) {
        allowed(false, "rule 6", tree);
        return null;
    }

    @Override
    public Void visitAssert(AssertTree tree, Void none) {
        allowed(false, "rule 6", tree);
        return null;
    }

    @Override
    public Void visitSynchronized(SynchronizedTree tree, Void none) {
        allowed(false, "rule 6", tree);
        return null;
    }

    @Override
    public Void visitLambdaExpression(LambdaExpressionTree tree, Void none) {
        allowed(false, "rule 2", tree);
        return null;
    }

    @Override
    public Void visitMemberReference(MemberReferenceTree tree, Void none) {
        allowed(false, "rule 2", tree);
        return null;
    }
}
