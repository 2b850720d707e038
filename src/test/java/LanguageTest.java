import com.sun.source.tree.ClassTree;
import com.sun.source.tree.CompilationUnitTree;
import com.sun.source.tree.ExpressionTree;
import com.sun.source.tree.ForLoopTree;
import com.sun.source.tree.LiteralTree;
import com.sun.source.tree.MemberSelectTree;
import com.sun.source.tree.MethodInvocationTree;
import com.sun.source.tree.MethodTree;
import com.sun.source.tree.NewArrayTree;
import com.sun.source.tree.NewClassTree;
import com.sun.source.tree.ParenthesizedTree;
import com.sun.source.tree.Tree;
import com.sun.source.tree.VariableTree;
import com.sun.source.tree.WhileLoopTree;
import com.sun.source.util.JavacTask;
import com.sun.source.util.SourcePositions;
import com.sun.source.util.TreePath;
import com.sun.source.util.TreePathScanner;
import com.sun.source.util.Trees;
import java.io.File;
import java.util.EnumSet;
import java.util.HashMap;
import java.util.HashSet;
import java.util.List;
import java.util.Map;
import java.util.Set;
import javax.lang.model.element.Element;
import javax.lang.model.element.ElementKind;
import javax.lang.model.element.Modifier;
import javax.tools.JavaCompiler;
import javax.tools.StandardJavaFileManager;
import javax.tools.ToolProvider;

/**
 * The rules of ../shared/LANGUAGE.md that can be told from the program's text, as far as the program needs
 * them: what it does not use is refused here, also where a rule would leave it.
 */
public final class LanguageTest extends TreePathScanner<Void, Void> {
    private static final File PROGRAM = new File("src/main/java/GrossSettlement.java");

    /** Rules 2, 6, 9 and 10, and what this program does without. */
    private static final Set<Tree.Kind> REFUSED = EnumSet.of(
        Tree.Kind.PACKAGE, Tree.Kind.IMPORT, Tree.Kind.LAMBDA_EXPRESSION, Tree.Kind.MEMBER_REFERENCE,
        Tree.Kind.THROW, Tree.Kind.TRY, Tree.Kind.CATCH, Tree.Kind.ASSERT, Tree.Kind.SYNCHRONIZED,
        Tree.Kind.INSTANCE_OF, Tree.Kind.TYPE_CAST, Tree.Kind.ANNOTATION, Tree.Kind.ENHANCED_FOR_LOOP,
        Tree.Kind.DO_WHILE_LOOP, Tree.Kind.STRING_LITERAL, Tree.Kind.DOUBLE_LITERAL, Tree.Kind.FLOAT_LITERAL);
    /** Rule 3: the types of this program besides its own classes. */
    private static final Set<String> TYPES = Set.of("int", "long", "boolean", "int[]", "long[]", "boolean[]");
    /** Rule 4: what this program uses of the library. */
    private static final Set<String> LIBRARY = Set.of("System.arraycopy");

    private final Answers answers = new Answers();
    private final Set<String> ownClasses = new HashSet<>();
    private final Map<Element, Set<Element>> calls = new HashMap<>();
    private final Map<Element, Integer> depths = new HashMap<>();
    private Trees trees;
    private SourcePositions positions;
    private CompilationUnitTree unit;

    public static void main(String[] args) throws Exception {
        LanguageTest test = new LanguageTest();
        test.answers.about("the language");
        test.read();
        test.lookAtClasses();
        test.scan(new TreePath(test.unit), null);
        test.lookAtDepths();
        test.answers.end();
    }

    private void read() throws Exception {
        JavaCompiler compiler = ToolProvider.getSystemJavaCompiler();
        StandardJavaFileManager files = compiler.getStandardFileManager(null, null, null);
        List<String> options = List.of("--release", "17", "-proc:none");
        JavacTask task = (JavacTask) compiler.getTask(null, files, null, options, null, files.getJavaFileObjects(PROGRAM));
        unit = task.parse().iterator().next();
        task.analyze();
        trees = Trees.instance(task);
        positions = trees.getSourcePositions();
    }

    /** One class with the program's name, and a dozen in all at most (rule 11), each right inside it. */
    private void lookAtClasses() {
        answers.due(1, "classes of the file", unit.getTypeDecls().size());
        ClassTree program = (ClassTree) unit.getTypeDecls().get(0);
        ownClasses.add(program.getSimpleName().toString());
        for (Tree member : program.getMembers()) {
            if (member instanceof ClassTree inside) {
                ownClasses.add(inside.getSimpleName().toString());
            }
        }
        answers.due(true, "its name is " + ownClasses, ownClasses.contains("GrossSettlement"));
        answers.due(true, "a dozen classes at most", ownClasses.size() <= 12);
    }

    private long lineOf(long position) {
        return unit.getLineMap().getLineNumber(position);
    }

    private void holds(Tree tree, String what, boolean isSo) {
        long line = lineOf(positions.getStartPosition(unit, tree));
        answers.due(true, "line " + line + ": " + what, isSo);
    }

    @Override
    public Void scan(Tree tree, Void nothing) {
        if (tree != null) {
            holds(tree, tree.getKind() + " is not used", !REFUSED.contains(tree.getKind()) || isLengthening(tree));
        }
        return super.scan(tree, nothing);
    }

    /** A cast to long can't fail; no other is needed. */
    private static boolean isLengthening(Tree tree) {
        return tree.getKind() == Tree.Kind.TYPE_CAST && tree.toString().startsWith("(long)");
    }

    @Override
    public Void visitClass(ClassTree tree, Void nothing) {
        int fields = 0;
        boolean isInside = getCurrentPath().getParentPath().getLeaf() instanceof ClassTree;
        for (Tree member : tree.getMembers()) {
            holds(member, "no initialiser block (rule 5)", member.getKind() != Tree.Kind.BLOCK);
            if (member instanceof VariableTree field && !isStatic(field)) {
                fields++;
                holds(field, "a field is private", field.getModifiers().getFlags().contains(Modifier.PRIVATE));
            }
        }
        holds(tree, "a class right inside the program", ownClasses.contains(tree.getSimpleName().toString()));
        holds(tree, "twenty fields at most (rule 11)", fields <= 20);
        holds(tree, "a class inside is static (rule 1)",
            !isInside || tree.getModifiers().getFlags().contains(Modifier.STATIC));
        return super.visitClass(tree, nothing);
    }

    private static boolean isStatic(VariableTree tree) {
        return tree.getModifiers().getFlags().contains(Modifier.STATIC);
    }

    @Override
    public Void visitVariable(VariableTree tree, Void nothing) {
        String type = tree.getType().toString();
        String element = type.endsWith("[]") ? type.substring(0, type.length() - 2) : type;
        holds(tree, type + " is allowed (rule 3)", TYPES.contains(type) || ownClasses.contains(element));
        if (isStatic(tree)) {
            holds(tree, "a static field is a constant number (rule 5)",
                tree.getModifiers().getFlags().contains(Modifier.FINAL) && Set.of("int", "long").contains(type));
        }
        return super.visitVariable(tree, nothing);
    }

    @Override
    public Void visitMethod(MethodTree tree, Void nothing) {
        calls.computeIfAbsent(trees.getElement(getCurrentPath()), it -> new HashSet<>());
        long first = lineOf(positions.getStartPosition(unit, tree));
        long last = lineOf(Math.max(0, positions.getEndPosition(unit, tree)));
        holds(tree, "sixty lines at most (rule 11)", last - first < 60);
        holds(tree, "seven parameters at most (rule 11)", tree.getParameters().size() <= 7);
        return super.visitMethod(tree, nothing);
    }

    /** The method that the current place is in, or null in a field's initialiser. */
    private Element methodHere() {
        for (Tree tree : getCurrentPath()) {
            if (tree instanceof MethodTree method) {
                return trees.getElement(trees.getPath(unit, method));
            }
        }
        return null;
    }

    @Override
    public Void visitMethodInvocation(MethodInvocationTree tree, Void nothing) {
        Element called = trees.getElement(getCurrentPath());
        String owner = called.getEnclosingElement().getSimpleName().toString();
        Element caller = methodHere();
        holds(tree, "a call stands in a method", caller != null);
        if (ownClasses.contains(owner)) {
            calls.computeIfAbsent(caller, it -> new HashSet<>()).add(called);
        } else {
            boolean isImplied = called.getKind() == ElementKind.CONSTRUCTOR && owner.equals("Object");
            holds(tree, tree.getMethodSelect() + " is in the library (rule 4)",
                isImplied || LIBRARY.contains(tree.getMethodSelect().toString()));
        }
        return super.visitMethodInvocation(tree, nothing);
    }

    @Override
    public Void visitMemberSelect(MemberSelectTree tree, Void nothing) {
        Element named = trees.getElement(getCurrentPath());
        if (named != null && named.getKind() == ElementKind.FIELD) {
            holds(tree, tree + " is the program's own (rule 4)",
                ownClasses.contains(named.getEnclosingElement().getSimpleName().toString()));
        }
        return super.visitMemberSelect(tree, nothing);
    }

    /** What is made is made when the object is: no call makes anything (rule 12). */
    private void isMadeAtFirst(Tree tree) {
        Element here = methodHere();
        holds(tree, "made in a constructor or for a field", here == null || here.getKind() == ElementKind.CONSTRUCTOR);
    }

    @Override
    public Void visitNewClass(NewClassTree tree, Void nothing) {
        isMadeAtFirst(tree);
        holds(tree, "no anonymous class", tree.getClassBody() == null);
        return super.visitNewClass(tree, nothing);
    }

    @Override
    public Void visitNewArray(NewArrayTree tree, Void nothing) {
        isMadeAtFirst(tree);
        return super.visitNewArray(tree, nothing);
    }

    /** Rule 9: there is a condition, and it is not a written true. */
    private void hasAnEnd(Tree tree, ExpressionTree condition) {
        ExpressionTree bare = condition instanceof ParenthesizedTree round ? round.getExpression() : condition;
        holds(tree, "a loop has a condition (rule 9)", bare != null && !(bare instanceof LiteralTree));
    }

    @Override
    public Void visitForLoop(ForLoopTree tree, Void nothing) {
        hasAnEnd(tree, tree.getCondition());
        holds(tree, "a for has one counter", tree.getInitializer().size() == 1 && tree.getUpdate().size() == 1);
        return super.visitForLoop(tree, nothing);
    }

    @Override
    public Void visitWhileLoop(WhileLoopTree tree, Void nothing) {
        hasAnEnd(tree, tree.getCondition());
        return super.visitWhileLoop(tree, nothing);
    }

    /** Rules 8 and 11: no recursion, and calls go at most eight deep. */
    private void lookAtDepths() {
        for (Element method : calls.keySet()) {
            int depth = depthOf(method, new HashSet<>());
            answers.due(true, method + " goes " + depth + " deep", depth <= 8);
        }
        answers.due(true, "methods are found: " + calls.size(), calls.size() > 20);
    }

    private int depthOf(Element method, Set<Element> open) {
        if (!open.add(method)) {
            answers.due("no recursion", method.toString(), "recursion");
            return 0;
        }
        Integer known = depths.get(method);
        int deepest = 0;
        if (known == null) {
            for (Element called : calls.getOrDefault(method, Set.of())) {
                deepest = Math.max(deepest, depthOf(called, open));
            }
            depths.put(method, deepest + 1);
        }
        open.remove(method);
        return depths.get(method);
    }
}
