import com.sun.source.tree.AssertTree;
import com.sun.source.tree.BinaryTree;
import com.sun.source.tree.BlockTree;
import com.sun.source.tree.ClassTree;
import com.sun.source.tree.CompilationUnitTree;
import com.sun.source.tree.CompoundAssignmentTree;
import com.sun.source.tree.DoWhileLoopTree;
import com.sun.source.tree.ExpressionTree;
import com.sun.source.tree.ForLoopTree;
import com.sun.source.tree.LambdaExpressionTree;
import com.sun.source.tree.LiteralTree;
import com.sun.source.tree.MemberReferenceTree;
import com.sun.source.tree.MemberSelectTree;
import com.sun.source.tree.MethodInvocationTree;
import com.sun.source.tree.MethodTree;
import com.sun.source.tree.NewArrayTree;
import com.sun.source.tree.NewClassTree;
import com.sun.source.tree.SynchronizedTree;
import com.sun.source.tree.ThrowTree;
import com.sun.source.tree.Tree;
import com.sun.source.tree.TryTree;
import com.sun.source.tree.TypeCastTree;
import com.sun.source.tree.VariableTree;
import com.sun.source.tree.WhileLoopTree;
import com.sun.source.util.JavacTask;
import com.sun.source.util.TreePath;
import com.sun.source.util.TreePathScanner;
import com.sun.source.util.Trees;
import java.io.IOException;
import java.io.UncheckedIOException;
import java.net.URI;
import java.util.HashSet;
import java.util.List;
import java.util.Set;
import java.util.TreeSet;
import javax.lang.model.element.Element;
import javax.lang.model.element.ElementKind;
import javax.lang.model.element.ExecutableElement;
import javax.lang.model.element.Modifier;
import javax.lang.model.element.NestingKind;
import javax.lang.model.element.TypeElement;
import javax.lang.model.element.VariableElement;
import javax.lang.model.type.ArrayType;
import javax.lang.model.type.DeclaredType;
import javax.lang.model.type.TypeKind;
import javax.lang.model.type.TypeMirror;
import javax.tools.Diagnostic;
import javax.tools.DiagnosticCollector;
import javax.tools.JavaFileObject;
import javax.tools.SimpleJavaFileObject;
import javax.tools.ToolProvider;

/**
 * Holds a source of TickArena against what can be seen from its text of the rules of LANGUAGE.md.
 * The class needs less than the rules leave (no text, list, fraction, try, while, cast), and what it
 * does not need is told as a breach too: whoever comes to need it looks at the rule first.
 */
final class Language extends TreePathScanner<Void, Void> {
    private static final Set<String> EXCEPTIONS = Set.of("IllegalStateException", "IllegalArgumentException",
            "IndexOutOfBoundsException", "ArithmeticException", "UnsupportedOperationException",
            "NoSuchElementException", "RuntimeException");
    private static final Set<String> OF_EVERY_OBJECT = Set.of("equals", "hashCode", "toString");

    private final Trees trees;
    private final CompilationUnitTree unit;
    private final TypeElement face;
    private final CallGraph graph = new CallGraph();
    private final Set<ExecutableElement> methods = new HashSet<>();
    private final TreeSet<Integer> rules = new TreeSet<>();
    private final boolean telling;
    private int classes = 0;

    private Language(Trees trees, CompilationUnitTree unit, boolean telling) {
        this.trees = trees;
        this.unit = unit;
        this.telling = telling;
        Tree first = unit.getTypeDecls().get(0);
        face = (TypeElement) trees.getElement(TreePath.getPath(unit, first));
    }

    /** The numbers of the rules that the source breaks; each breach is told where tell is true. */
    static Set<Integer> broken(String source, boolean tell) {
        DiagnosticCollector<JavaFileObject> said = new DiagnosticCollector<>();
        JavacTask task = (JavacTask) ToolProvider.getSystemJavaCompiler()
                .getTask(null, null, said, List.of("-proc:none"), null, List.of(new Source(source)));
        try {
            CompilationUnitTree unit = task.parse().iterator().next();
            task.analyze();
            for (Diagnostic<?> one : said.getDiagnostics()) {
                if (one.getKind() == Diagnostic.Kind.ERROR) {
                    throw new IllegalArgumentException(one + " in " + source);
                }
            }
            return new Language(Trees.instance(task), unit, tell).look();
        } catch (IOException e) {
            throw new UncheckedIOException(e);
        }
    }

    private static final class Source extends SimpleJavaFileObject {
        private final String text;

        Source(String text) {
            super(URI.create("string:///TickArena.java"), Kind.SOURCE);
            this.text = text;
        }

        @Override
        public CharSequence getCharContent(boolean ignoreEncodingErrors) {
            return text;
        }
    }

    private Set<Integer> look() {
        scan(unit, null);
        must(11, classes <= 12, unit, "more than twelve classes");
        must(8, !graph.hasCircle(), unit, "methods that call themselves");
        must(11, graph.hasCircle() || graph.depth() <= 8, unit, "calls more than eight deep");
        for (ExecutableElement method : methods) {
            lookAtThrown(method);
        }
        return rules;
    }

    private void must(int rule, boolean kept, Tree where, String breach) {
        if (kept) {
            return;
        }
        rules.add(rule);
        if (telling) {
            long start = trees.getSourcePositions().getStartPosition(unit, where);
            System.out.println("rule " + rule + ", line " + unit.getLineMap().getLineNumber(start) + ": " + breach);
        }
    }

    /** What reaches the caller of the face is just what its method names. */
    private void lookAtThrown(ExecutableElement method) {
        if (!method.getModifiers().contains(Modifier.PUBLIC) || graph.hasCircle()) {
            return;
        }
        Set<String> named = new TreeSet<>();
        for (TypeMirror type : method.getThrownTypes()) {
            named.add(nameOf(type));
        }
        Set<String> thrown = graph.thrownBy(method);
        must(6, thrown.equals(named), trees.getTree(method), method + " throws " + thrown + ", named are " + named);
    }

    // What stands in a file

    @Override
    public Void visitCompilationUnit(CompilationUnitTree node, Void none) {
        must(1, node.getPackageName() == null, node, "a package line");
        must(1, node.getTypeDecls().size() == 1, node, "a second class beside the first");
        must(4, node.getImports().isEmpty(), node, "an import");
        return super.visitCompilationUnit(node, none);
    }

    @Override
    public Void visitClass(ClassTree node, Void none) {
        TypeElement type = (TypeElement) element();
        Set<Modifier> modifiers = type.getModifiers();
        classes++;
        if (type.equals(face)) {
            must(1, modifiers.containsAll(Set.of(Modifier.PUBLIC, Modifier.FINAL)), node, "not public and final");
        } else if (type.getNestingKind() != NestingKind.MEMBER) {
            must(2, type.getNestingKind() == NestingKind.TOP_LEVEL, node, "a class inside a method");
        } else {
            must(1, isHidden(modifiers), node, "an open class inside");
            must(1, modifiers.contains(Modifier.STATIC), node, "a class inside that is not static");
        }
        long fields = type.getEnclosedElements().stream()
                .filter(e -> e.getKind() == ElementKind.FIELD && !e.getModifiers().contains(Modifier.STATIC)).count();
        must(11, fields <= 20, node, "more than twenty fields");
        return super.visitClass(node, none);
    }

    private static boolean isHidden(Set<Modifier> modifiers) {
        return !modifiers.contains(Modifier.PUBLIC) && !modifiers.contains(Modifier.PROTECTED);
    }

    @Override
    public Void visitMethod(MethodTree node, Void none) {
        ExecutableElement method = (ExecutableElement) element();
        methods.add(method);
        graph.enter(method);
        lookAtName(node, method);
        must(11, node.getParameters().size() <= 7, node, "more than seven parameters");
        must(11, linesOf(node) <= 60, node, "more than sixty lines");
        must(6, !method.getModifiers().contains(Modifier.SYNCHRONIZED), node, "synchronized");
        must(3, method.getReturnType().getKind() == TypeKind.VOID || isPlain(method.getReturnType()), node,
                "answers " + method.getReturnType());
        return super.visitMethod(node, none);
    }

    private void lookAtName(MethodTree node, ExecutableElement method) {
        String name = method.getSimpleName().toString();
        must(6, !OF_EVERY_OBJECT.contains(name), node, "an own " + name);
        if (method.getModifiers().contains(Modifier.PRIVATE)) {
            must(1, !isOpen(name), node, "a private method with the name of an open one, " + name);
        } else if (method.getEnclosingElement().equals(face)) {
            must(1, method.getModifiers().contains(Modifier.PUBLIC), node, "neither public nor private: " + name);
        }
    }

    private boolean isOpen(String name) {
        return face.getEnclosedElements().stream().anyMatch(e -> e.getKind() == ElementKind.METHOD
                && e.getModifiers().contains(Modifier.PUBLIC) && e.getSimpleName().contentEquals(name));
    }

    private long linesOf(MethodTree node) {
        long start = trees.getSourcePositions().getStartPosition(unit, node);
        long end = Math.max(start, trees.getSourcePositions().getEndPosition(unit, node));
        return unit.getLineMap().getLineNumber(end) - unit.getLineMap().getLineNumber(start) + 1;
    }

    @Override
    public Void visitVariable(VariableTree node, Void none) {
        VariableElement variable = (VariableElement) element();
        Set<Modifier> modifiers = variable.getModifiers();
        must(3, isPlain(variable.asType()), node, "a variable of " + variable.asType());
        if (modifiers.contains(Modifier.STATIC)) {
            must(5, variable.getConstantValue() != null, node, "a static field that is no constant");
        }
        if (variable.getKind() == ElementKind.FIELD && variable.getEnclosingElement().equals(face)) {
            boolean constant = modifiers.contains(Modifier.PUBLIC) && variable.getConstantValue() != null;
            must(1, modifiers.contains(Modifier.PRIVATE) || constant, node, "an open field");
        }
        return super.visitVariable(node, none);
    }

    @Override
    public Void visitBlock(BlockTree node, Void none) {
        must(5, !node.isStatic(), node, "a static block");
        return super.visitBlock(node, none);
    }

    /** Whole numbers, booleans, own classes, and rows of these. */
    private boolean isPlain(TypeMirror type) {
        if (type.getKind() == TypeKind.ARRAY) {
            TypeMirror part = ((ArrayType) type).getComponentType();
            return part.getKind() != TypeKind.ARRAY && isPlain(part);
        }
        if (type.getKind() == TypeKind.DECLARED) {
            return isOwn(((DeclaredType) type).asElement());
        }
        return type.getKind().isPrimitive() && type.getKind() != TypeKind.DOUBLE && type.getKind() != TypeKind.FLOAT;
    }

    private boolean isOwn(Element element) {
        for (Element e = element; e != null; e = e.getEnclosingElement()) {
            if (e.equals(face)) {
                return true;
            }
        }
        return false;
    }

    private Element element() {
        return trees.getElement(getCurrentPath());
    }

    private Element elementOf(Tree tree) {
        return trees.getElement(new TreePath(getCurrentPath(), tree));
    }

    private TypeMirror typeOf(Tree tree) {
        return trees.getTypeMirror(new TreePath(getCurrentPath(), tree));
    }

    private static String nameOf(TypeMirror type) {
        return ((DeclaredType) type).asElement().getSimpleName().toString();
    }

    /** The method that holds the present place; null in a field's initialiser. */
    private ExecutableElement holder() {
        for (TreePath path = getCurrentPath(); path != null; path = path.getParentPath()) {
            if (path.getLeaf() instanceof MethodTree) {
                return (ExecutableElement) trees.getElement(path);
            }
            if (path.getLeaf() instanceof ClassTree) {
                return null;
            }
        }
        return null;
    }

    private boolean isInConstructor() {
        return holder() != null && holder().getKind() == ElementKind.CONSTRUCTOR;
    }

    // What is done in methods

    @Override
    public Void visitMethodInvocation(MethodInvocationTree node, Void none) {
        ExecutableElement called = (ExecutableElement) element();
        if (called.getSimpleName().contentEquals("<init>")) {
            return super.visitMethodInvocation(node, none);
        }
        must(4, isOwn(called), node, "a call of " + called + ", which is not the file's own");
        graph.call(holder(), called);
        if (isInConstructor()) {
            must(12, !canBeOverridden(called), node, "a constructor that calls what may be overridden");
            must(12, node.getArguments().stream().noneMatch(a -> a.toString().equals("this")), node,
                    "a constructor that hands out its object");
        }
        return super.visitMethodInvocation(node, none);
    }

    private static boolean canBeOverridden(ExecutableElement method) {
        Set<Modifier> own = method.getModifiers();
        boolean fixed = own.contains(Modifier.PRIVATE) || own.contains(Modifier.STATIC) || own.contains(Modifier.FINAL);
        return !fixed && !method.getEnclosingElement().getModifiers().contains(Modifier.FINAL);
    }

    @Override
    public Void visitMemberSelect(MemberSelectTree node, Void none) {
        Element chosen = element();
        boolean field = chosen != null && chosen.getKind() == ElementKind.FIELD;
        boolean length = node.getIdentifier().contentEquals("length")
                && typeOf(node.getExpression()).getKind() == TypeKind.ARRAY;
        must(4, !field || length || isOwn(chosen), node, "a field of the library, " + node);
        return super.visitMemberSelect(node, none);
    }

    @Override
    public Void visitNewClass(NewClassTree node, Void none) {
        Element constructor = element();
        if (isOwn(constructor)) {
            graph.call(holder(), (ExecutableElement) constructor);
            mustBeMadeOnce(node);
        } else {
            must(4, isThrown(), node, "an object of the library");
        }
        return super.visitNewClass(node, none);
    }

    @Override
    public Void visitNewArray(NewArrayTree node, Void none) {
        mustBeMadeOnce(node);
        return super.visitNewArray(node, none);
    }

    /** Rows and objects are made with the arena and used again, so that no call adds to the room. */
    private void mustBeMadeOnce(Tree node) {
        must(12, holder() == null || isInConstructor(), node, "an object or a row made by a call");
    }

    private boolean isThrown() {
        return getCurrentPath().getParentPath().getLeaf() instanceof ThrowTree;
    }

    @Override
    public Void visitThrow(ThrowTree node, Void none) {
        boolean made = node.getExpression() instanceof NewClassTree;
        must(6, made, node, "throws what was made elsewhere");
        must(6, !isInConstructor(), node, "a throw in a constructor");
        if (made) {
            NewClassTree thrown = (NewClassTree) node.getExpression();
            String name = nameOf(typeOf(thrown));
            must(6, EXCEPTIONS.contains(name), node, "throws " + name);
            boolean written = thrown.getArguments().stream().allMatch(a -> a instanceof LiteralTree);
            must(6, written && thrown.getArguments().size() <= 1, node, "a text that is not written out");
            graph.thrown(holder(), name);
        }
        return super.visitThrow(node, none);
    }

    @Override
    public Void visitTry(TryTree node, Void none) {
        must(6, false, node, "try");
        return super.visitTry(node, none);
    }

    @Override
    public Void visitSynchronized(SynchronizedTree node, Void none) {
        must(6, false, node, "synchronized");
        return super.visitSynchronized(node, none);
    }

    @Override
    public Void visitAssert(AssertTree node, Void none) {
        must(6, false, node, "assert");
        return super.visitAssert(node, none);
    }

    @Override
    public Void visitTypeCast(TypeCastTree node, Void none) {
        must(6, typeOf(node.getType()).getKind().isPrimitive(), node, "a cast among classes");
        return super.visitTypeCast(node, none);
    }

    @Override
    public Void visitLambdaExpression(LambdaExpressionTree node, Void none) {
        must(2, false, node, "a lambda");
        return super.visitLambdaExpression(node, none);
    }

    @Override
    public Void visitMemberReference(MemberReferenceTree node, Void none) {
        must(2, false, node, "a method reference");
        return super.visitMemberReference(node, none);
    }

    @Override
    public Void visitBinary(BinaryTree node, Void none) {
        must(7, !divides(node.getKind()) || isNeverZero(node.getRightOperand()), node, "a divisor not looked at");
        must(10, typeOf(node.getLeftOperand()).getKind().isPrimitive() || node.getKind() != Tree.Kind.PLUS, node,
                "texts joined by +");
        return super.visitBinary(node, none);
    }

    @Override
    public Void visitCompoundAssignment(CompoundAssignmentTree node, Void none) {
        must(7, !divides(node.getKind()) || isNeverZero(node.getExpression()), node, "a divisor not looked at");
        return super.visitCompoundAssignment(node, none);
    }

    private static boolean divides(Tree.Kind kind) {
        return kind == Tree.Kind.DIVIDE || kind == Tree.Kind.REMAINDER
                || kind == Tree.Kind.DIVIDE_ASSIGNMENT || kind == Tree.Kind.REMAINDER_ASSIGNMENT;
    }

    private boolean isNeverZero(ExpressionTree divisor) {
        Object number = null;
        if (divisor instanceof LiteralTree) {
            number = ((LiteralTree) divisor).getValue();
        } else if (elementOf(divisor) instanceof VariableElement) {
            number = ((VariableElement) elementOf(divisor)).getConstantValue();
        }
        return number instanceof Number && ((Number) number).longValue() != 0;
    }

    // Loops

    @Override
    public Void visitWhileLoop(WhileLoopTree node, Void none) {
        must(9, false, node, "a loop without a counter of its own");
        return super.visitWhileLoop(node, none);
    }

    @Override
    public Void visitDoWhileLoop(DoWhileLoopTree node, Void none) {
        must(9, false, node, "a loop without a counter of its own");
        return super.visitDoWhileLoop(node, none);
    }

    @Override
    public Void visitForLoop(ForLoopTree node, Void none) {
        must(9, CountedLoop.hasAnEnd(node), node, "a loop whose end can not be seen from its lines");
        return super.visitForLoop(node, none);
    }
}
