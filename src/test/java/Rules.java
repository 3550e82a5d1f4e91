import com.sun.source.tree.ArrayAccessTree;
import com.sun.source.tree.AssignmentTree;
import com.sun.source.tree.BinaryTree;
import com.sun.source.tree.BlockTree;
import com.sun.source.tree.ClassTree;
import com.sun.source.tree.CompilationUnitTree;
import com.sun.source.tree.CompoundAssignmentTree;
import com.sun.source.tree.EnhancedForLoopTree;
import com.sun.source.tree.ExpressionTree;
import com.sun.source.tree.ForLoopTree;
import com.sun.source.tree.LiteralTree;
import com.sun.source.tree.MethodInvocationTree;
import com.sun.source.tree.MethodTree;
import com.sun.source.tree.NewArrayTree;
import com.sun.source.tree.NewClassTree;
import com.sun.source.tree.ThrowTree;
import com.sun.source.tree.Tree;
import com.sun.source.tree.UnaryTree;
import com.sun.source.tree.VariableTree;
import com.sun.source.util.JavacTask;
import com.sun.source.util.SourcePositions;
import com.sun.source.util.TreePath;
import com.sun.source.util.TreePathScanner;
import com.sun.source.util.Trees;
import java.io.IOException;
import java.io.UncheckedIOException;
import java.net.URI;
import java.util.ArrayList;
import java.util.Arrays;
import java.util.HashMap;
import java.util.HashSet;
import java.util.List;
import java.util.Map;
import java.util.Set;
import javax.lang.model.element.Element;
import javax.lang.model.element.ElementKind;
import javax.lang.model.element.Modifier;
import javax.lang.model.type.ArrayType;
import javax.lang.model.type.DeclaredType;
import javax.lang.model.type.TypeKind;
import javax.lang.model.type.TypeMirror;
import javax.tools.JavaCompiler;
import javax.tools.JavaFileObject;
import javax.tools.SimpleJavaFileObject;
import javax.tools.ToolProvider;

/**
 * Which rules of ../shared/LANGUAGE.md a source breaks, as far as its trees tell: not whether an index is looked
 * at (7), nor whether a loop ends (9) but for those without any condition. It is stricter than the rules where
 * ObjectLinker.java uses nothing of what they leave: no try, no recursion, no class in a method.
 */
final class Rules extends TreePathScanner<Void, Void> {
    private static final Set<String> FACE = Set.of("object", "function", "code", "segment", "fill", "symbol",
            "link", "place", "count", "byteAt", "meant", "run", "told", "memory");
    private static final Set<String> EXCEPTIONS = Set.of("IllegalStateException", "IllegalArgumentException",
            "IndexOutOfBoundsException", "ArithmeticException", "UnsupportedOperationException",
            "NoSuchElementException", "RuntimeException");
    private static final Map<String, Set<String>> LIBRARY = Map.of(
            "java.lang.Object", Set.of("<init>"),
            "java.lang.String", Set.of("<init>", "length", "charAt", "isEmpty", "equals", "indexOf", "substring",
                    "toCharArray"),
            "java.lang.StringBuilder", Set.of("<init>", "append", "charAt", "setCharAt", "setLength",
                    "deleteCharAt", "reverse", "length", "toString"),
            "java.util.ArrayList", Set.of("<init>", "add", "get", "set", "remove", "size", "isEmpty", "clear"),
            "java.util.List", Set.of("add", "get", "set", "remove", "size", "isEmpty", "clear", "of"),
            "java.lang.System", Set.of("arraycopy"),
            "java.util.Arrays", Set.of("copyOf", "copyOfRange", "fill"));
    private static final Set<String> RECKONERS = Set.of("java.lang.Integer", "java.lang.Long", "java.lang.Math");
    private static final Map<Tree.Kind, Integer> REFUSED = Map.of(Tree.Kind.LAMBDA_EXPRESSION, 2,
            Tree.Kind.MEMBER_REFERENCE, 2, Tree.Kind.TRY, 6, Tree.Kind.SYNCHRONIZED, 6, Tree.Kind.ASSERT, 6);
    private static final int MOST_PARAMETERS = 7;
    private static final int MOST_LINES = 60;
    private static final int MOST_CALLS = 8;
    private static final int MOST_CLASSES = 12;
    private static final int MOST_FIELDS = 20;

    private final List<String> broken = new ArrayList<>();
    private final Map<Element, Set<Element>> calls = new HashMap<>();
    private final Trees trees;
    private final SourcePositions positions;
    private CompilationUnitTree file;
    private Element caller;
    private int classes;

    private Rules(Trees trees) {
        this.trees = trees;
        this.positions = trees.getSourcePositions();
    }

    /** A line for each place where a rule is broken, the rule's number first. */
    static List<String> broken(String source) {
        JavaCompiler compiler = ToolProvider.getSystemJavaCompiler();
        JavaFileObject read = new SimpleJavaFileObject(URI.create("string:///ObjectLinker.java"),
                JavaFileObject.Kind.SOURCE) {
            @Override
            public CharSequence getCharContent(boolean ignored) {
                return source;
            }
        };
        JavacTask task = (JavacTask) compiler.getTask(null, null, null, List.of("--release", "17"), null,
                List.of(read));
        Rules rules = new Rules(Trees.instance(task));
        try {
            Iterable<? extends CompilationUnitTree> parsed = task.parse();
            task.analyze();
            parsed.forEach(rules::lookAt);
        } catch (IOException e) {
            throw new UncheckedIOException(e);
        }
        return rules.broken;
    }

    private void lookAt(CompilationUnitTree unit) {
        file = unit;
        require(1, unit.getPackageName() == null && unit.getTypeDecls().size() == 1, "one class without a package", unit);
        scan(unit, null);
        require(11, classes <= MOST_CLASSES, classes + " classes", unit);
        for (Element method : new ArrayList<>(calls.keySet())) {
            int deep = deepest(method, new HashSet<>());
            require(8, deep < Integer.MAX_VALUE, method + " calls itself", unit);
            require(11, deep <= MOST_CALLS || deep == Integer.MAX_VALUE, method + " goes " + deep + " deep", unit);
        }
    }

    private int deepest(Element method, Set<Element> open) {
        if (!open.add(method)) {
            return Integer.MAX_VALUE;
        }
        int most = 0;
        for (Element called : calls.getOrDefault(method, Set.of())) {
            most = Math.max(most, deepest(called, open));
        }
        open.remove(method);
        return most == Integer.MAX_VALUE ? most : most + 1;
    }

    private void require(int rule, boolean holds, String what, Tree where) {
        if (!holds) {
            long at = positions.getStartPosition(file, where);
            broken.add(rule + ": " + what + ", line " + (at < 0 ? 0 : file.getLineMap().getLineNumber(at)));
        }
    }

    @Override
    public Void scan(Tree tree, Void none) {
        if (tree != null) {
            require(REFUSED.getOrDefault(tree.getKind(), 0), !REFUSED.containsKey(tree.getKind()), "such a word", tree);
        }
        return super.scan(tree, none);
    }

    @Override
    public Void visitClass(ClassTree tree, Void none) {
        classes++;
        Element self = trees.getElement(getCurrentPath());
        Set<Modifier> flags = tree.getModifiers().getFlags();
        boolean outer = self.getEnclosingElement().getKind() == ElementKind.PACKAGE;
        require(1, outer ? flags.contains(Modifier.PUBLIC) && flags.contains(Modifier.FINAL)
                : !flags.contains(Modifier.PUBLIC) && !flags.contains(Modifier.PROTECTED), "how it is seen", tree);
        require(2, outer || flags.contains(Modifier.STATIC), "a class that is not static", tree);
        int fields = 0;
        for (Tree member : tree.getMembers()) {
            require(5, !(member instanceof BlockTree), "an initialiser block", member);
            if (member instanceof VariableTree field) {
                fields += field.getModifiers().getFlags().contains(Modifier.STATIC) ? 0 : 1;
                lookAtStatic(field);
            }
        }
        require(11, fields <= MOST_FIELDS, fields + " fields", tree);
        return super.visitClass(tree, none);
    }

    private void lookAtStatic(VariableTree field) {
        Set<Modifier> flags = field.getModifiers().getFlags();
        if (!flags.contains(Modifier.STATIC)) {
            return;
        }
        require(5, flags.contains(Modifier.FINAL), "a static field that is not final", field);
        String type = field.getType().toString();
        boolean constant = Set.of("int", "long", "boolean", "char", "String").contains(type);
        boolean row = Set.of("int[]", "long[]", "char[]", "byte[]").contains(type)
                && field.getInitializer() instanceof NewArrayTree made && made.getInitializers() != null;
        require(5, constant || row, "a static " + type, field);
    }

    @Override
    public Void visitMethod(MethodTree tree, Void none) {
        Element outside = caller;
        caller = trees.getElement(getCurrentPath());
        calls.putIfAbsent(caller, new HashSet<>());
        boolean hidden = tree.getModifiers().getFlags().contains(Modifier.PRIVATE);
        require(1, !hidden || !FACE.contains(tree.getName().toString()), "a private " + tree.getName(), tree);
        require(11, tree.getParameters().size() <= MOST_PARAMETERS, tree.getName() + "'s parameters", tree);
        require(11, lines(tree) <= MOST_LINES, tree.getName() + " has " + lines(tree) + " lines", tree);
        if (tree.getReturnType() != null) {
            lookAtType(trees.getTypeMirror(new TreePath(getCurrentPath(), tree.getReturnType())), tree);
        }
        super.visitMethod(tree, none);
        caller = outside;
        return null;
    }

    private long lines(MethodTree tree) {
        long from = positions.getStartPosition(file, tree);
        long to = positions.getEndPosition(file, tree);
        return from < 0 || to < 0 ? 0 : file.getLineMap().getLineNumber(to) - file.getLineMap().getLineNumber(from) + 1;
    }

    @Override
    public Void visitVariable(VariableTree tree, Void none) {
        lookAtType(trees.getTypeMirror(getCurrentPath()), tree);
        return super.visitVariable(tree, none);
    }

    private void lookAtType(TypeMirror type, Tree where) {
        require(3, type.getKind() == TypeKind.VOID || isPlain(type) || isRow(type) || isList(type), "a " + type, where);
    }

    private static boolean isPlain(TypeMirror type) {
        String name = type.toString();
        return type.getKind().isPrimitive() || isOwn(type) || name.equals("java.lang.String")
                || name.equals("java.lang.StringBuilder");
    }

    private static boolean isOwn(TypeMirror type) {
        return type.toString().startsWith("ObjectLinker");
    }

    private static boolean isRow(TypeMirror type) {
        if (!(type instanceof ArrayType row)) {
            return false;
        }
        TypeMirror inside = row.getComponentType();
        boolean twice = inside instanceof ArrayType deeper && deeper.getComponentType().getKind().isPrimitive();
        return inside.getKind().isPrimitive() || isOwn(inside) || twice;
    }

    private static boolean isList(TypeMirror type) {
        boolean list = type.toString().startsWith("java.util.List<") || type.toString().startsWith("java.util.ArrayList<");
        TypeMirror held = list ? ((DeclaredType) type).getTypeArguments().get(0) : null;
        return held != null && (isOwn(held) || held.toString().equals("java.lang.Integer"));
    }

    @Override
    public Void visitMethodInvocation(MethodInvocationTree tree, Void none) {
        noteCall(trees.getElement(getCurrentPath()), tree);
        return super.visitMethodInvocation(tree, none);
    }

    @Override
    public Void visitNewClass(NewClassTree tree, Void none) {
        require(2, tree.getClassBody() == null, "an anonymous class", tree);
        if (!EXCEPTIONS.contains(tree.getIdentifier().toString())) {
            noteCall(trees.getElement(getCurrentPath()), tree);
        }
        return super.visitNewClass(tree, none);
    }

    private void noteCall(Element called, Tree where) {
        String owner = called.getEnclosingElement().toString();
        String name = called.getSimpleName().toString();
        boolean reckons = RECKONERS.contains(owner) && !name.endsWith("Exact") && !name.equals("<init>");
        boolean known = LIBRARY.getOrDefault(owner, Set.of()).contains(name);
        require(4, owner.startsWith("ObjectLinker") || known || reckons && overNumbers(called), owner + "." + name, where);
        if (caller != null) {
            calls.get(caller).add(called);
        }
    }

    private static boolean overNumbers(Element method) {
        String text = method.asType().toString();
        return method.getModifiers().contains(Modifier.STATIC) && !text.contains("double") && !text.contains("float")
                && !text.contains("String");
    }

    @Override
    public Void visitThrow(ThrowTree tree, Void none) {
        boolean known = tree.getExpression() instanceof NewClassTree made
                && EXCEPTIONS.contains(made.getIdentifier().toString())
                && made.getArguments().stream().allMatch(text -> text instanceof LiteralTree);
        require(6, known, "throw", tree);
        require(6, caller == null || caller.getKind() == ElementKind.METHOD, "throw in a constructor", tree);
        return super.visitThrow(tree, none);
    }

    @Override
    public Void visitForLoop(ForLoopTree tree, Void none) {
        require(9, tree.getCondition() != null, "for without a condition", tree);
        return super.visitForLoop(tree, none);
    }

    @Override
    public Void visitLiteral(LiteralTree tree, Void none) {
        Tree around = getCurrentPath().getParentPath().getParentPath().getLeaf();
        boolean loops = around.getKind() == Tree.Kind.WHILE_LOOP || around.getKind() == Tree.Kind.DO_WHILE_LOOP;
        require(9, !loops, "a loop without a condition", tree);
        return super.visitLiteral(tree, none);
    }

    @Override
    public Void visitEnhancedForLoop(EnhancedForLoopTree tree, Void none) {
        TypeMirror over = trees.getTypeMirror(new TreePath(getCurrentPath(), tree.getExpression()));
        require(12, over.getKind() == TypeKind.ARRAY, "for over what makes an iterator", tree);
        return super.visitEnhancedForLoop(tree, none);
    }

    @Override
    public Void visitBinary(BinaryTree tree, Void none) {
        boolean text = trees.getTypeMirror(getCurrentPath()).toString().equals("java.lang.String");
        require(10, !text, "texts joined by +", tree);
        return super.visitBinary(tree, none);
    }

    @Override
    public Void visitAssignment(AssignmentTree tree, Void none) {
        lookAtChanged(tree.getVariable(), tree);
        return super.visitAssignment(tree, none);
    }

    @Override
    public Void visitCompoundAssignment(CompoundAssignmentTree tree, Void none) {
        lookAtChanged(tree.getVariable(), tree);
        return super.visitCompoundAssignment(tree, none);
    }

    @Override
    public Void visitUnary(UnaryTree tree, Void none) {
        boolean changes = Arrays.asList(Tree.Kind.PREFIX_INCREMENT, Tree.Kind.PREFIX_DECREMENT,
                Tree.Kind.POSTFIX_INCREMENT, Tree.Kind.POSTFIX_DECREMENT).contains(tree.getKind());
        if (changes) {
            lookAtChanged(tree.getExpression(), tree);
        }
        return super.visitUnary(tree, none);
    }

    private void lookAtChanged(ExpressionTree changed, Tree where) {
        if (changed instanceof ArrayAccessTree place) {
            TreePath inside = new TreePath(new TreePath(getCurrentPath(), changed), place.getExpression());
            Element row = trees.getElement(inside);
            boolean fixed = row != null && row.getKind() == ElementKind.FIELD
                    && row.getModifiers().contains(Modifier.STATIC);
            require(5, !fixed, "a static row is changed", where);
        }
    }
}
