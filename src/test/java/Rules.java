import com.sun.source.tree.AssertTree;
import com.sun.source.tree.BinaryTree;
import com.sun.source.tree.BlockTree;
import com.sun.source.tree.ClassTree;
import com.sun.source.tree.CompilationUnitTree;
import com.sun.source.tree.CompoundAssignmentTree;
import com.sun.source.tree.ExpressionTree;
import com.sun.source.tree.ImportTree;
import com.sun.source.tree.LambdaExpressionTree;
import com.sun.source.tree.MemberReferenceTree;
import com.sun.source.tree.MethodInvocationTree;
import com.sun.source.tree.MethodTree;
import com.sun.source.tree.NewClassTree;
import com.sun.source.tree.PackageTree;
import com.sun.source.tree.SynchronizedTree;
import com.sun.source.tree.ThrowTree;
import com.sun.source.tree.Tree;
import com.sun.source.tree.TryTree;
import com.sun.source.tree.TypeCastTree;
import com.sun.source.tree.VariableTree;
import com.sun.source.util.JavacTask;
import com.sun.source.util.TreePath;
import com.sun.source.util.TreePathScanner;
import com.sun.source.util.Trees;
import java.io.IOException;
import java.io.UncheckedIOException;
import java.net.URI;
import java.util.ArrayList;
import java.util.HashMap;
import java.util.HashSet;
import java.util.LinkedHashSet;
import java.util.List;
import java.util.Map;
import java.util.Set;
import javax.lang.model.element.Element;
import javax.lang.model.element.ElementKind;
import javax.lang.model.element.Modifier;
import javax.lang.model.element.VariableElement;
import javax.lang.model.type.ArrayType;
import javax.lang.model.type.TypeMirror;
import javax.tools.JavaFileObject;
import javax.tools.SimpleJavaFileObject;
import javax.tools.ToolProvider;

/**
 * Looks at a class's syntax tree for breaches of LANGUAGE.md. It is stricter than that: what the rules allow
 * and GraphKeep has no need of (try, a division, most of the library) is told too.
 */
final class Rules extends TreePathScanner<Void, Void> {
    private static final Set<String> LIBRARY = Set.of("java.lang.Math.max");
    private static final Set<String> IMPORTS = Set.of("java.util.NoSuchElementException");
    private static final Set<String> THROWN = Set.of("java.lang.IllegalStateException", "java.lang.ArithmeticException",
        "java.util.NoSuchElementException");
    private static final int MOST_LINES = 60;
    private static final int MOST_PARAMETERS = 7;
    private static final int MOST_CLASSES = 12;
    private static final int MOST_FIELDS = 20;
    private static final int DEEPEST = 8;

    private final CompilationUnitTree unit;
    private final Trees trees;
    private final List<String> breaches = new ArrayList<>();
    private final Set<String> openNames = new HashSet<>();
    private final Map<String, Tree> hiddenNames = new HashMap<>();
    private final Map<Element, Set<Element>> calls = new HashMap<>();
    private int classes = 0;

    private Rules(CompilationUnitTree unit, Trees trees) {
        this.unit = unit;
        this.trees = trees;
    }

    /** Each as the number of the rule, the line, and what was seen. */
    static List<String> breaches(String text) {
        JavaFileObject source = new SimpleJavaFileObject(URI.create("string:///GraphKeep.java"), JavaFileObject.Kind.SOURCE) {
            @Override
            public CharSequence getCharContent(boolean ignoreErrors) {
                return text;
            }
        };
        JavacTask task = (JavacTask) ToolProvider.getSystemJavaCompiler().getTask(null, null, null,
            List.of("-proc:none"), null, List.of(source));
        try {
            CompilationUnitTree unit = task.parse().iterator().next();
            task.analyze();
            Rules rules = new Rules(unit, Trees.instance(task));
            rules.scan(unit, null);
            rules.names();
            rules.depths();
            return rules.breaches;
        } catch (IOException e) {
            throw new UncheckedIOException(e);
        }
    }

    private long lineOf(long position) {
        return unit.getLineMap().getLineNumber(Math.max(0, position));
    }

    private void breach(int rule, Tree tree, String what) {
        breaches.add(rule + ": line " + lineOf(trees.getSourcePositions().getStartPosition(unit, tree)) + ": " + what);
    }

    private void must(boolean holds, int rule, Tree tree, String what) {
        if (!holds) {
            breach(rule, tree, what);
        }
    }

    private Element element() {
        return trees.getElement(getCurrentPath());
    }

    private TypeMirror typeOf(Tree tree) {
        return trees.getTypeMirror(new TreePath(getCurrentPath(), tree));
    }

    /** Those of the file: what javac puts in by itself has no end there. */
    private boolean isWritten(Tree tree) {
        return trees.getSourcePositions().getEndPosition(unit, tree) >= 0
            && trees.getSourcePositions().getStartPosition(unit, tree) >= 0;
    }

    private static boolean isOwn(String type) {
        return type.equals("GraphKeep") || type.startsWith("GraphKeep.");
    }

    private Element method() {
        TreePath path = getCurrentPath();
        while (path != null && !(path.getLeaf() instanceof MethodTree)) {
            path = path.getParentPath();
        }
        return path == null ? null : trees.getElement(path);
    }

    @Override
    public Void visitPackage(PackageTree tree, Void v) {
        breach(1, tree, "a package line");
        return super.visitPackage(tree, v);
    }

    @Override
    public Void visitImport(ImportTree tree, Void v) {
        must(IMPORTS.contains(tree.getQualifiedIdentifier().toString()), 4, tree, tree.toString());
        return null;
    }

    @Override
    public Void visitClass(ClassTree tree, Void v) {
        classes++;
        must(classes <= MOST_CLASSES, 11, tree, "a class too many");
        Set<Modifier> modifiers = tree.getModifiers().getFlags();
        boolean isOuter = getCurrentPath().getParentPath().getLeaf() == unit;
        boolean isOpen = modifiers.contains(Modifier.PUBLIC) || modifiers.contains(Modifier.PROTECTED);
        must(isOpen == isOuter, 1, tree, tree.getSimpleName() + " is public");
        must(isOuter || modifiers.contains(Modifier.STATIC) || tree.getKind() != Tree.Kind.CLASS, 2, tree,
            tree.getSimpleName() + " is not static");
        long fields = tree.getMembers().stream().filter(Rules::isOwnField).count();
        must(fields <= MOST_FIELDS, 11, tree, fields + " fields");
        for (Tree member : tree.getMembers()) {
            must(!(member instanceof BlockTree), 5, member, "an initialiser");
            if (isOuter) {
                face(member);
            }
        }
        return super.visitClass(tree, v);
    }

    private static boolean isOwnField(Tree member) {
        return member instanceof VariableTree && !((VariableTree) member).getModifiers().getFlags().contains(Modifier.STATIC);
    }

    /** FaceTest sees to it that what is public is the document's. */
    private void face(Tree member) {
        Set<Modifier> modifiers = Set.of(Modifier.PUBLIC);
        if (member instanceof MethodTree) {
            modifiers = ((MethodTree) member).getModifiers().getFlags();
        } else if (member instanceof VariableTree) {
            modifiers = ((VariableTree) member).getModifiers().getFlags();
        }
        must(modifiers.contains(Modifier.PUBLIC) || modifiers.contains(Modifier.PRIVATE), 1, member, "neither public nor private");
    }

    @Override
    public Void visitMethod(MethodTree tree, Void v) {
        if (!isWritten(tree)) {
            return null;
        }
        Set<Modifier> modifiers = tree.getModifiers().getFlags();
        String name = tree.getName().toString();
        boolean isConstructor = element().getKind() == ElementKind.CONSTRUCTOR;
        if (!isConstructor && modifiers.contains(Modifier.PUBLIC)) {
            openNames.add(name);
        } else if (!isConstructor) {
            hiddenNames.put(name, tree);
        }
        must(!modifiers.contains(Modifier.SYNCHRONIZED), 6, tree, "synchronized");
        must(tree.getParameters().size() <= MOST_PARAMETERS, 11, tree, name + " has too many parameters");
        long first = lineOf(trees.getSourcePositions().getStartPosition(unit, tree));
        long last = lineOf(trees.getSourcePositions().getEndPosition(unit, tree));
        must(last - first < MOST_LINES, 11, tree, name + " is too long");
        calls.computeIfAbsent(element(), key -> new LinkedHashSet<>());
        return super.visitMethod(tree, v);
    }

    @Override
    public Void visitVariable(VariableTree tree, Void v) {
        VariableElement variable = (VariableElement) element();
        must(isAllowed(variable.asType()), 3, tree, "a variable of " + variable.asType());
        if (variable.getModifiers().contains(Modifier.STATIC)) {
            must(variable.getConstantValue() != null, 5, tree, variable + " is no constant");
        }
        return super.visitVariable(tree, v);
    }

    private static boolean isAllowed(TypeMirror type) {
        if (type instanceof ArrayType) {
            TypeMirror element = ((ArrayType) type).getComponentType();
            return element.getKind().isPrimitive() || isOwn(element.toString());
        }
        return type.getKind().isPrimitive() || isOwn(type.toString()) || type.toString().equals("java.lang.String");
    }

    @Override
    public Void visitMethodInvocation(MethodInvocationTree tree, Void v) {
        Element called = element();
        String owner = called.getEnclosingElement().toString();
        if (isOwn(owner)) {
            calls.computeIfAbsent(method(), key -> new LinkedHashSet<>()).add(called);
        } else if (called.getKind() != ElementKind.CONSTRUCTOR) {
            String name = owner + "." + called.getSimpleName();
            must(LIBRARY.contains(name), 4, tree, name);
        }
        return super.visitMethodInvocation(tree, v);
    }

    @Override
    public Void visitNewClass(NewClassTree tree, Void v) {
        boolean isThrown = getCurrentPath().getParentPath().getLeaf() instanceof ThrowTree;
        must(isThrown || isOwn(typeOf(tree.getIdentifier()).toString()), 4, tree, "new " + tree.getIdentifier());
        return super.visitNewClass(tree, v);
    }

    @Override
    public Void visitThrow(ThrowTree tree, Void v) {
        must(method() != null && method().getKind() == ElementKind.METHOD, 6, tree, "a throw in a constructor");
        ExpressionTree thrown = tree.getExpression();
        must(thrown instanceof NewClassTree && isPlain((NewClassTree) thrown), 6, tree, tree.toString());
        return super.visitThrow(tree, v);
    }

    private boolean isPlain(NewClassTree thrown) {
        List<? extends ExpressionTree> texts = thrown.getArguments();
        boolean isWrittenOut = texts.isEmpty() || texts.size() == 1 && texts.get(0).getKind() == Tree.Kind.STRING_LITERAL;
        return isWrittenOut && THROWN.contains(trees.getElement(new TreePath(getCurrentPath(), thrown))
            .getEnclosingElement().toString());
    }

    @Override
    public Void visitBinary(BinaryTree tree, Void v) {
        String left = String.valueOf(typeOf(tree.getLeftOperand()));
        String right = String.valueOf(typeOf(tree.getRightOperand()));
        boolean isText = left.equals("java.lang.String") || right.equals("java.lang.String");
        Tree.Kind kind = tree.getKind();
        must(kind != Tree.Kind.DIVIDE && kind != Tree.Kind.REMAINDER, 7, tree, "a division");
        must(kind != Tree.Kind.PLUS || !isText, 10, tree, "texts joined by +");
        boolean isSame = kind == Tree.Kind.EQUAL_TO || kind == Tree.Kind.NOT_EQUAL_TO;
        must(!isSame || !isText && !left.equals("java.lang.Integer"), 6, tree, "== between texts or Integers");
        return super.visitBinary(tree, v);
    }

    @Override
    public Void visitCompoundAssignment(CompoundAssignmentTree tree, Void v) {
        Tree.Kind kind = tree.getKind();
        must(kind != Tree.Kind.DIVIDE_ASSIGNMENT && kind != Tree.Kind.REMAINDER_ASSIGNMENT, 7, tree, "a division");
        must(typeOf(tree.getVariable()).getKind().isPrimitive(), 10, tree, "texts joined by +=");
        return super.visitCompoundAssignment(tree, v);
    }

    @Override
    public Void visitTypeCast(TypeCastTree tree, Void v) {
        must(typeOf(tree.getType()).getKind().isPrimitive(), 6, tree, "a cast of an object");
        return super.visitTypeCast(tree, v);
    }

    @Override
    public Void visitTry(TryTree tree, Void v) {
        breach(6, tree, "try");
        return null;
    }

    @Override
    public Void visitSynchronized(SynchronizedTree tree, Void v) {
        breach(6, tree, "synchronized");
        return super.visitSynchronized(tree, v);
    }

    @Override
    public Void visitAssert(AssertTree tree, Void v) {
        breach(6, tree, "assert");
        return super.visitAssert(tree, v);
    }

    @Override
    public Void visitLambdaExpression(LambdaExpressionTree tree, Void v) {
        breach(2, tree, "a lambda");
        return null;
    }

    @Override
    public Void visitMemberReference(MemberReferenceTree tree, Void v) {
        breach(2, tree, "a method reference");
        return null;
    }

    private void names() {
        hiddenNames.forEach((name, tree) -> must(!openNames.contains(name), 1, tree, name + " is public too"));
    }

    private void depths() {
        for (Element method : new ArrayList<>(calls.keySet())) {
            int deep = depth(method, new HashSet<>());
            if (deep > DEEPEST) {
                breaches.add("11: " + method + " goes too deep");
            }
        }
    }

    /** How many calls stand open below this one; nothing calls itself here, though rule 8 would allow it. */
    private int depth(Element method, Set<Element> open) {
        if (!open.add(method)) {
            breaches.add("8: " + method + " calls itself");
            return 0;
        }
        int deepest = 0;
        for (Element called : calls.getOrDefault(method, Set.of())) {
            deepest = Math.max(deepest, 1 + depth(called, open));
        }
        open.remove(method);
        return deepest;
    }
}
