import com.sun.source.tree.ClassTree;
import com.sun.source.tree.CompilationUnitTree;
import com.sun.source.tree.ExpressionTree;
import com.sun.source.tree.IdentifierTree;
import com.sun.source.tree.ImportTree;
import com.sun.source.tree.LineMap;
import com.sun.source.tree.MemberSelectTree;
import com.sun.source.tree.MethodInvocationTree;
import com.sun.source.tree.MethodTree;
import com.sun.source.tree.NewArrayTree;
import com.sun.source.tree.NewClassTree;
import com.sun.source.tree.Tree;
import com.sun.source.tree.VariableTree;
import com.sun.source.util.JavacTask;
import com.sun.source.util.SourcePositions;
import com.sun.source.util.TreeScanner;
import com.sun.source.util.Trees;
import java.nio.file.Path;
import java.util.List;
import java.util.Map;
import java.util.Set;
import java.util.TreeMap;
import java.util.TreeSet;
import javax.lang.model.element.Modifier;
import javax.tools.JavaCompiler;
import javax.tools.StandardJavaFileManager;
import javax.tools.ToolProvider;

/** The rules of LANGUAGE.md that can be read off the source; narrower than the rules where the class needs less. */
public final class LanguageTest extends TreeScanner<Void, Void> {
    private static final Path MAIN = Path.of("src", "main", "java", "DecimalText.java");
    private static final int MOST_PARAMETERS = 7;
    private static final int MOST_LINES = 60;
    private static final int MOST_DEPTH = 8;
    private static final int MOST_CLASSES = 12;
    private static final int MOST_FIELDS = 20;

    private static final Set<String> TYPES = Set.of("int", "long", "char", "boolean", "int[]", "char[]", "Line", "Worth");
    private static final Set<String> CONSTANT_TYPES = Set.of("int", "long", "boolean", "char", "String");
    private static final Set<String> LIBRARY = Set.of("Math.max", "Math.abs", "Arrays.fill");
    private static final Set<Tree.Kind> RULED_OUT = Set.of(
            Tree.Kind.THROW, Tree.Kind.TRY, Tree.Kind.CATCH, Tree.Kind.SYNCHRONIZED, Tree.Kind.ASSERT,
            Tree.Kind.LAMBDA_EXPRESSION, Tree.Kind.MEMBER_REFERENCE, Tree.Kind.ANNOTATION,
            Tree.Kind.FLOAT_LITERAL, Tree.Kind.DOUBLE_LITERAL);

    private final Subject subject = new Subject("LanguageTest");
    private final SourcePositions positions;
    private final CompilationUnitTree unit;
    private final Set<String> publicNames = new TreeSet<>();
    private final Set<String> privateNames = new TreeSet<>();
    private final Map<String, Set<String>> callsOf = new TreeMap<>();
    private String method = "";
    private int classDepth = 0;
    private int classes = 0;

    private LanguageTest(SourcePositions positions, CompilationUnitTree unit) {
        this.positions = positions;
        this.unit = unit;
    }

    public static void main(String[] args) throws Exception {
        JavaCompiler compiler = ToolProvider.getSystemJavaCompiler();
        try (StandardJavaFileManager files = compiler.getStandardFileManager(null, null, null)) {
            JavacTask task = (JavacTask) compiler.getTask(null, files, null, null, null,
                    files.getJavaFileObjects(MAIN));
            CompilationUnitTree unit = task.parse().iterator().next();
            new LanguageTest(Trees.instance(task).getSourcePositions(), unit).check();
        }
    }

    private void check() {
        scan(unit, null);
        subject.sentence("one file without a package");
        subject.same("package", unit.getPackageName() == null, true);
        subject.same("classes beside the one", unit.getTypeDecls().size(), 1);
        subject.sentence("rule 1: no private method bears the name of a public one");
        Set<String> both = new TreeSet<>(publicNames);
        both.retainAll(privateNames);
        subject.same("both public and private", both, Set.of());
        subject.sentence("rule 11: calls at most eight deep, some twelve classes");
        for (String name : callsOf.keySet()) {
            subject.same("depth from " + name, depthFrom(name, MOST_DEPTH) <= MOST_DEPTH, true);
        }
        subject.same("few classes", classes <= MOST_CLASSES, true);
        subject.finish();
    }

    @Override
    public Void scan(Tree tree, Void nothing) {
        if (tree != null && RULED_OUT.contains(tree.getKind())) {
            subject.tell("rules 2, 3 and 6: " + tree.getKind() + " in line " + lineOf(tree));
        }
        return super.scan(tree, nothing);
    }

    @Override
    public Void visitImport(ImportTree tree, Void nothing) {
        subject.same("rule 4: import", tree.getQualifiedIdentifier().toString(), "java.util.Arrays");
        return null;
    }

    @Override
    public Void visitClass(ClassTree tree, Void nothing) {
        String name = tree.getSimpleName().toString();
        classes++;
        subject.same("rule 2: " + name + " stands outside every method", method, "");
        if (classDepth > 0) {
            subject.same("rule 2: " + name + " is static", tree.getModifiers().getFlags().contains(Modifier.STATIC), true);
        }
        subject.same("rule 11: few fields in " + name, fieldsOf(tree) <= MOST_FIELDS, true);
        for (Tree member : tree.getMembers()) {
            subject.same("rule 5: no initialiser block in " + name, member.getKind() == Tree.Kind.BLOCK, false);
        }
        classDepth++;
        super.visitClass(tree, nothing);
        classDepth--;
        return null;
    }

    @Override
    public Void visitMethod(MethodTree tree, Void nothing) {
        method = tree.getName().toString();
        Set<Modifier> flags = tree.getModifiers().getFlags();
        if (!method.equals("<init>")) {
            // The depth is counted over names, so a name must mean one method.
            subject.same("only one method " + method, callsOf.put(method, new TreeSet<>()) == null, true);
            if (flags.contains(Modifier.PUBLIC)) {
                publicNames.add(method);
            } else {
                privateNames.add(method);
            }
        }
        subject.same("rule 11: parameters of " + method, tree.getParameters().size() <= MOST_PARAMETERS, true);
        subject.same("rule 11: lines of " + method, linesOf(tree) <= MOST_LINES, true);
        super.visitMethod(tree, nothing);
        method = "";
        return null;
    }

    @Override
    public Void visitVariable(VariableTree tree, Void nothing) {
        String type = tree.getType().toString();
        Set<Modifier> flags = tree.getModifiers().getFlags();
        subject.same("rule 3: " + tree + ": the type", TYPES.contains(type), true);
        if (flags.contains(Modifier.STATIC)) {
            boolean fixed = flags.contains(Modifier.FINAL) && CONSTANT_TYPES.contains(type);
            subject.same("rule 5: " + tree + " is a constant", fixed, true);
        }
        return super.visitVariable(tree, nothing);
    }

    @Override
    public Void visitNewClass(NewClassTree tree, Void nothing) {
        subject.same("rule 12: " + tree + " is in", method, "<init>");
        subject.same("rule 2: " + tree + " has a body", tree.getClassBody() != null, false);
        return super.visitNewClass(tree, nothing);
    }

    @Override
    public Void visitNewArray(NewArrayTree tree, Void nothing) {
        subject.same("rule 12: " + tree + " is in", method, "<init>");
        return super.visitNewArray(tree, nothing);
    }

    @Override
    public Void visitMethodInvocation(MethodInvocationTree tree, Void nothing) {
        ExpressionTree select = tree.getMethodSelect();
        if (select instanceof IdentifierTree own) {
            addCall(own.getName().toString());
        } else if (select instanceof MemberSelectTree of) {
            String whole = of.toString();
            boolean library = Character.isUpperCase(whole.charAt(0));
            if (library) {
                subject.same("rule 4: " + whole, LIBRARY.contains(whole), true);
            } else {
                addCall(of.getIdentifier().toString());
            }
        }
        return super.visitMethodInvocation(tree, nothing);
    }

    private void addCall(String name) {
        // super() stands in every constructor.
        if (!method.equals("<init>") && !method.isEmpty()) {
            callsOf.get(method).add(name);
        } else if (!name.equals("super")) {
            subject.tell("rule 12: a constructor calls " + name);
        }
    }

    /** How many calls stand open at once; a recursion comes out deeper than the most. */
    private int depthFrom(String name, int left) {
        if (!callsOf.containsKey(name)) {
            subject.tell("rule 4: " + name + " is no method of the file");
            return 0;
        }
        if (left < 0) {
            return 1;
        }
        int deepest = 0;
        for (String called : callsOf.get(name)) {
            deepest = Math.max(deepest, depthFrom(called, left - 1));
        }
        return deepest + 1;
    }

    private static int fieldsOf(ClassTree tree) {
        int fields = 0;
        for (Tree member : tree.getMembers()) {
            boolean constant = member instanceof VariableTree field
                    && field.getModifiers().getFlags().containsAll(List.of(Modifier.STATIC, Modifier.FINAL));
            fields += member instanceof VariableTree && !constant ? 1 : 0;
        }
        return fields;
    }

    private long lineOf(Tree tree) {
        return unit.getLineMap().getLineNumber(positions.getStartPosition(unit, tree));
    }

    private long linesOf(Tree tree) {
        LineMap map = unit.getLineMap();
        return map.getLineNumber(positions.getEndPosition(unit, tree)) - lineOf(tree) + 1;
    }
}
