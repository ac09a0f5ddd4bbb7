import com.sun.source.tree.ArrayTypeTree;
import com.sun.source.tree.AssertTree;
import com.sun.source.tree.BinaryTree;
import com.sun.source.tree.ClassTree;
import com.sun.source.tree.CompilationUnitTree;
import com.sun.source.tree.DoWhileLoopTree;
import com.sun.source.tree.ExpressionTree;
import com.sun.source.tree.ForLoopTree;
import com.sun.source.tree.IdentifierTree;
import com.sun.source.tree.ImportTree;
import com.sun.source.tree.LambdaExpressionTree;
import com.sun.source.tree.MemberReferenceTree;
import com.sun.source.tree.MethodInvocationTree;
import com.sun.source.tree.MethodTree;
import com.sun.source.tree.NewArrayTree;
import com.sun.source.tree.NewClassTree;
import com.sun.source.tree.PrimitiveTypeTree;
import com.sun.source.tree.SynchronizedTree;
import com.sun.source.tree.ThrowTree;
import com.sun.source.tree.Tree;
import com.sun.source.tree.TryTree;
import com.sun.source.tree.VariableTree;
import com.sun.source.tree.WhileLoopTree;
import com.sun.source.util.JavacTask;
import com.sun.source.util.TreePathScanner;
import com.sun.source.util.TreeScanner;
import com.sun.source.util.Trees;
import java.io.IOException;
import java.nio.file.Path;
import java.util.ArrayList;
import java.util.List;
import java.util.Map;
import java.util.Set;
import java.util.TreeMap;
import java.util.TreeSet;
import javax.lang.model.element.Element;
import javax.lang.model.element.ElementKind;
import javax.lang.model.element.Modifier;
import javax.tools.ToolProvider;

/**
 * Holds the text of the class against ../shared/LANGUAGE.md, rule by rule, as far as a text shows it. It is
 * narrower than the rules where the class needs less than they leave: no try, no texts, and no object is made
 * but by constructors, so that a call makes nothing that counts.
 */
public final class LanguageTest extends TreePathScanner<Void, Void> {
    private static final Set<String> LIBRARY = Set.of("java.lang.Object <init>", "java.lang.Math min",
            "java.lang.System arraycopy");
    private static final Set<String> EXCEPTIONS = Set.of("IllegalStateException", "IllegalArgumentException",
            "IndexOutOfBoundsException", "UnsupportedOperationException", "NoSuchElementException");
    private static final Set<Tree.Kind> COMPARISONS = Set.of(Tree.Kind.LESS_THAN, Tree.Kind.LESS_THAN_EQUAL,
            Tree.Kind.GREATER_THAN, Tree.Kind.GREATER_THAN_EQUAL);
    private static final int MOST_LINES = 60;
    private static final int MOST_PARAMETERS = 7;
    private static final int MOST_FIELDS = 20;
    private static final int MOST_CLASSES = 12;
    private static final int DEEPEST = 8;

    private final Trees trees;
    private final CompilationUnitTree unit;
    private final Set<String> classes = new TreeSet<>();
    private final Set<String> publicNames = new TreeSet<>();
    private final List<String> privateNames = new ArrayList<>();
    /** Which methods a method calls. */
    private final Map<String, Set<String>> calls = new TreeMap<>();
    private int wrong = 0;

    private LanguageTest(Trees trees, CompilationUnitTree unit) {
        this.trees = trees;
        this.unit = unit;
    }

    public static void main(String[] args) throws IOException {
        Path file = Path.of(args.length > 0 ? args[0] : "src/main/java/XactKernel.java");
        var compiler = ToolProvider.getSystemJavaCompiler();
        try (var files = compiler.getStandardFileManager(null, null, null)) {
            JavacTask task = (JavacTask) compiler.getTask(null, files, null, List.of("-proc:none"), null,
                    files.getJavaFileObjects(file));
            CompilationUnitTree unit = task.parse().iterator().next();
            task.analyze();
            LanguageTest test = new LanguageTest(Trees.instance(task), unit);
            test.findClasses();
            test.scan(unit, null);
            test.checkNames();
            test.checkDepth();
            System.out.println("language: wrong: " + test.wrong);
            System.exit(test.wrong == 0 ? 0 : 1);
        }
    }

    private void check(boolean holds, int rule, Tree where, String what) {
        if (!holds) {
            complain(rule, "line " + line(where) + ": " + what);
        }
    }

    private void complain(int rule, String what) {
        wrong++;
        System.out.println("rule " + rule + ": " + what);
    }

    private long line(Tree where) {
        return unit.getLineMap().getLineNumber(trees.getSourcePositions().getStartPosition(unit, where));
    }

    private long lastLine(Tree where) {
        return unit.getLineMap().getLineNumber(trees.getSourcePositions().getEndPosition(unit, where));
    }

    private void findClasses() {
        new TreeScanner<Void, Void>() {
            @Override
            public Void visitClass(ClassTree node, Void none) {
                classes.add(node.getSimpleName().toString());
                return super.visitClass(node, none);
            }
        }.scan(unit, null);
    }

    // ---- One file, one face, own classes inside (rules 1 and 2) ----

    @Override
    public Void visitCompilationUnit(CompilationUnitTree node, Void none) {
        if (node.getPackageName() != null || node.getTypeDecls().size() != 1) {
            complain(1, "one class without a package line");
        }
        return super.visitCompilationUnit(node, none);
    }

    @Override
    public Void visitImport(ImportTree node, Void none) {
        check(node.toString().contains("java.util.NoSuchElementException"), 4, node, "an import: " + node);
        return null;
    }

    @Override
    public Void visitClass(ClassTree node, Void none) {
        boolean outermost = getCurrentPath().getParentPath().getLeaf() == unit;
        Set<Modifier> flags = node.getModifiers().getFlags();
        check(outermost || isMember() && flags.contains(Modifier.STATIC), 2, node, "a class inside is a static member");
        check(outermost || !isVisible(flags), 1, node, "a class inside is not public");
        int fields = 0;
        for (Tree member : node.getMembers()) {
            boolean isBlock = member.getKind() == Tree.Kind.BLOCK;
            check(!isBlock, 5, member, "a block that is no method's");
            if (member instanceof VariableTree field && !isStatic(field)) {
                fields++;
            }
        }
        check(fields <= MOST_FIELDS, 11, node, "too many fields: " + fields);
        check(classes.size() <= MOST_CLASSES, 11, node, "too many classes: " + classes);
        return super.visitClass(node, none);
    }

    private boolean isMember() {
        return getCurrentPath().getParentPath().getLeaf() instanceof ClassTree;
    }

    private static boolean isVisible(Set<Modifier> flags) {
        return flags.contains(Modifier.PUBLIC) || flags.contains(Modifier.PROTECTED);
    }

    private static boolean isStatic(VariableTree field) {
        return field.getModifiers().getFlags().contains(Modifier.STATIC);
    }

    private void checkNames() {
        for (String name : privateNames) {
            if (publicNames.contains(name)) {
                complain(1, "a private method bears the name of a public one: " + name);
            }
        }
    }

    // ---- Types and fields (rules 3 and 5) ----

    @Override
    public Void visitVariable(VariableTree node, Void none) {
        check(isAllowed(node.getType()), 3, node, "the type of " + node.getName());
        if (isMember()) {
            Set<Modifier> flags = node.getModifiers().getFlags();
            boolean constant = isStatic(node);
            check(flags.contains(Modifier.PRIVATE) || constant && flags.contains(Modifier.PUBLIC), 1, node,
                    "a field that others see: " + node.getName());
            check(!constant || flags.contains(Modifier.FINAL) && node.getType() instanceof PrimitiveTypeTree, 5, node,
                    "a static field is a constant: " + node.getName());
        }
        return super.visitVariable(node, none);
    }

    private boolean isAllowed(Tree type) {
        if (type instanceof ArrayTypeTree array) {
            return !(array.getType() instanceof ArrayTypeTree) && isAllowed(array.getType());
        }
        return type instanceof PrimitiveTypeTree
                || type instanceof IdentifierTree name && classes.contains(name.getName().toString());
    }

    // ---- Methods, what they call and how deep (rules 4, 8 and 11) ----

    @Override
    public Void visitMethod(MethodTree node, Void none) {
        Set<Modifier> flags = node.getModifiers().getFlags();
        String name = node.getName().toString();
        if (flags.contains(Modifier.PUBLIC)) {
            publicNames.add(name);
        } else {
            // The compiler gives a private class without constructors one, which has no modifiers here.
            boolean constructor = name.equals("<init>");
            check(flags.contains(Modifier.PRIVATE) || constructor, 1, node, "a method that others see: " + name);
            if (!constructor) {
                privateNames.add(name);
            }
        }
        check(node.getParameters().size() <= MOST_PARAMETERS, 11, node, name + " takes too much");
        long lines = lastLine(node) - line(node) + 1;
        check(lines <= MOST_LINES, 11, node, name + " has too many lines: " + lines);
        calls.putIfAbsent(keyOf(trees.getElement(getCurrentPath())), new TreeSet<>());
        return super.visitMethod(node, none);
    }

    private static String keyOf(Element method) {
        return method.getEnclosingElement() + " " + method.getSimpleName();
    }

    /** The method around what is looked at, null if it is a field's initialiser. */
    private Element methodAround() {
        for (var path = getCurrentPath(); path != null; path = path.getParentPath()) {
            if (path.getLeaf() instanceof MethodTree) {
                return trees.getElement(path);
            }
        }
        return null;
    }

    @Override
    public Void visitMethodInvocation(MethodInvocationTree node, Void none) {
        noteCall(trees.getElement(getCurrentPath()), node);
        return super.visitMethodInvocation(node, none);
    }

    private void noteCall(Element called, Tree where) {
        String key = keyOf(called);
        Element around = methodAround();
        if (!key.startsWith("XactKernel")) {
            check(LIBRARY.contains(key), 4, where, "the library: " + key);
        } else if (around != null) {
            calls.computeIfAbsent(keyOf(around), unused -> new TreeSet<>()).add(key);
        }
    }

    private void checkDepth() {
        for (String method : calls.keySet()) {
            List<String> deepest = deepestFrom(method, new ArrayList<>());
            if (deepest.size() > DEEPEST) {
                complain(11, "too deep: " + deepest);
            }
        }
    }

    /** The longest row of methods that call one another; one that comes back to itself is told, and ends there. */
    private List<String> deepestFrom(String method, List<String> before) {
        if (before.contains(method)) {
            complain(8, "recursion: " + before + " " + method);
            return List.of();
        }
        List<String> open = new ArrayList<>(before);
        open.add(method);
        List<String> deepest = open;
        for (String called : calls.getOrDefault(method, Set.of())) {
            List<String> found = deepestFrom(called, open);
            deepest = found.size() > deepest.size() ? found : deepest;
        }
        return deepest;
    }

    // ---- What goes wrong, and what is made (rules 6 and 12) ----

    @Override
    public Void visitThrow(ThrowTree node, Void none) {
        boolean plain = node.getExpression() instanceof NewClassTree made && made.getArguments().isEmpty()
                && EXCEPTIONS.contains(made.getIdentifier().toString());
        check(plain, 6, node, "what is thrown: " + node.getExpression());
        check(!isInConstructor(), 6, node, "a throw in a constructor");
        return super.visitThrow(node, none);
    }

    private boolean isInConstructor() {
        Element around = methodAround();
        return around != null && around.getKind() == ElementKind.CONSTRUCTOR;
    }

    @Override
    public Void visitNewClass(NewClassTree node, Void none) {
        if (!(getCurrentPath().getParentPath().getLeaf() instanceof ThrowTree)) {
            check(methodAround() == null || isInConstructor(), 12, node, "an object that a call makes: " + node);
            noteCall(trees.getElement(getCurrentPath()), node);
        }
        check(node.getClassBody() == null, 2, node, "a class without a name");
        return super.visitNewClass(node, none);
    }

    @Override
    public Void visitNewArray(NewArrayTree node, Void none) {
        check(methodAround() == null || isInConstructor(), 12, node, "an array that a call makes: " + node);
        return super.visitNewArray(node, none);
    }

    @Override
    public Void visitTry(TryTree node, Void none) {
        check(false, 6, node, "a try");
        return null;
    }

    @Override
    public Void visitSynchronized(SynchronizedTree node, Void none) {
        check(false, 6, node, "synchronized");
        return null;
    }

    @Override
    public Void visitAssert(AssertTree node, Void none) {
        check(false, 6, node, "an assert");
        return null;
    }

    @Override
    public Void visitLambdaExpression(LambdaExpressionTree node, Void none) {
        check(false, 2, node, "a lambda");
        return null;
    }

    @Override
    public Void visitMemberReference(MemberReferenceTree node, Void none) {
        check(false, 2, node, "a method reference");
        return null;
    }

    // ---- Loops (rule 9) ----

    @Override
    public Void visitForLoop(ForLoopTree node, Void none) {
        check(hasBound(node.getCondition()) && !node.getUpdate().isEmpty(), 9, node, "a loop without a counter");
        return super.visitForLoop(node, none);
    }

    @Override
    public Void visitWhileLoop(WhileLoopTree node, Void none) {
        check(hasBound(node.getCondition()), 9, node, "a loop without a bound");
        return super.visitWhileLoop(node, none);
    }

    @Override
    public Void visitDoWhileLoop(DoWhileLoopTree node, Void none) {
        check(hasBound(node.getCondition()), 9, node, "a loop without a bound");
        return super.visitDoWhileLoop(node, none);
    }

    private static boolean hasBound(ExpressionTree condition) {
        boolean[] found = {false};
        new TreeScanner<Void, Void>() {
            @Override
            public Void visitBinary(BinaryTree node, Void none) {
                found[0] |= COMPARISONS.contains(node.getKind());
                return super.visitBinary(node, none);
            }
        }.scan(condition, null);
        return found[0];
    }
}
