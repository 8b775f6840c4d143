import com.sun.source.tree.AssertTree;
import com.sun.source.tree.BinaryTree;
import com.sun.source.tree.ClassTree;
import com.sun.source.tree.CompilationUnitTree;
import com.sun.source.tree.DoWhileLoopTree;
import com.sun.source.tree.ForLoopTree;
import com.sun.source.tree.ImportTree;
import com.sun.source.tree.InstanceOfTree;
import com.sun.source.tree.LambdaExpressionTree;
import com.sun.source.tree.LiteralTree;
import com.sun.source.tree.MemberReferenceTree;
import com.sun.source.tree.MethodInvocationTree;
import com.sun.source.tree.MethodTree;
import com.sun.source.tree.NewArrayTree;
import com.sun.source.tree.NewClassTree;
import com.sun.source.tree.SynchronizedTree;
import com.sun.source.tree.ThrowTree;
import com.sun.source.tree.Tree;
import com.sun.source.tree.TryTree;
import com.sun.source.tree.TypeCastTree;
import com.sun.source.tree.VariableTree;
import com.sun.source.tree.WhileLoopTree;
import com.sun.source.util.JavacTask;
import com.sun.source.util.TreePath;
import com.sun.source.util.TreePathScanner;
import com.sun.source.util.Trees;
import java.io.IOException;
import java.nio.file.Path;
import java.util.LinkedHashMap;
import java.util.List;
import java.util.Map;
import java.util.Set;
import java.util.TreeSet;
import javax.lang.model.element.Element;
import javax.lang.model.element.ElementKind;
import javax.lang.model.element.Modifier;
import javax.lang.model.element.VariableElement;
import javax.lang.model.type.ArrayType;
import javax.lang.model.type.TypeKind;
import javax.lang.model.type.TypeMirror;
import javax.tools.JavaCompiler;
import javax.tools.StandardJavaFileManager;
import javax.tools.ToolProvider;

/**
 * The rules of LANGUAGE.md that can be seen in the program's text; each failure names its rule. Of
 * what a rule leaves, the program uses a part, and this test allows no more than that part.
 */
public final class LanguageTest extends TreePathScanner<Void, Void> {
    private static final Set<String> LIBRARY =
            Set.of("String.length", "String.charAt", "Math.max", "Math.min");
    private static final Set<String> THROWN = Set.of("IllegalStateException",
            "IllegalArgumentException", "IndexOutOfBoundsException", "ArithmeticException",
            "UnsupportedOperationException", "NoSuchElementException", "RuntimeException");

    private final Trees trees;
    private final Map<String, Set<String>> calls = new LinkedHashMap<>();
    private final Set<String> open = new TreeSet<>();
    private final Set<String> hidden = new TreeSet<>();
    private int classes = 0;

    private LanguageTest(Trees trees) {
        this.trees = trees;
    }

    public static void main(String[] args) throws IOException {
        Path program = Path.of(args.length == 0 ? "src/main/java/MountYard.java" : args[0]);
        JavaCompiler compiler = ToolProvider.getSystemJavaCompiler();
        try (StandardJavaFileManager files = compiler.getStandardFileManager(null, null, null)) {
            JavacTask task = (JavacTask) compiler.getTask(null, files, null,
                    List.of("-proc:none", "--release", "17"), null,
                    files.getJavaFileObjects(program));
            Iterable<? extends CompilationUnitTree> units = task.parse();
            task.analyze();
            LanguageTest test = new LanguageTest(Trees.instance(task));
            for (CompilationUnitTree unit : units) {
                test.scan(unit, null);
            }
            test.whole();
        }
        Check.end();
    }

    private void rule(int number, String what, boolean holds) {
        if (!holds) {
            Check.fail("rule " + number + ": " + what);
        }
    }

    private void rule(int number, Tree tree, String what, boolean holds) {
        CompilationUnitTree unit = getCurrentPath().getCompilationUnit();
        long line = unit.getLineMap().getLineNumber(
                trees.getSourcePositions().getStartPosition(unit, tree));
        rule(number, "line " + line + ": " + what, holds);
    }

    private void whole() {
        rule(11, classes + " classes", classes > 1 && classes <= 12);
        for (String name : hidden) {
            rule(1, "a private method bears the name " + name, !open.contains(name));
        }
        for (String from : calls.keySet()) {
            int depth = depth(from, 0);
            rule(11, from + " begins calls " + depth + " deep", depth <= 8);
        }
    }

    /** How many calls stand open at once below this one, itself too; recursion ends far above 8. */
    private int depth(String from, int above) {
        int deepest = 0;
        if (above < 30) {
            for (String to : calls.getOrDefault(from, Set.of())) {
                deepest = Math.max(deepest, depth(to, above + 1));
            }
        }
        return deepest + 1;
    }

    private Element element() {
        return trees.getElement(getCurrentPath());
    }

    private boolean isOwn(Element element) {
        Element outermost = element;
        while (outermost.getEnclosingElement() != null
                && outermost.getEnclosingElement().getKind() != ElementKind.PACKAGE) {
            outermost = outermost.getEnclosingElement();
        }
        return outermost.getSimpleName().contentEquals("MountYard");
    }

    private static String nameOf(Element method) {
        return method.getEnclosingElement().getSimpleName() + "." + method;
    }

    /** The method or constructor in which the scanner is; null outside all of them. */
    private MethodTree method() {
        for (TreePath path = getCurrentPath(); path != null; path = path.getParentPath()) {
            if (path.getLeaf() instanceof MethodTree found) {
                return found;
            }
        }
        return null;
    }

    private boolean inConstructor() {
        MethodTree found = method();
        return found != null && found.getReturnType() == null;
    }

    private void addCall(Element to) {
        for (TreePath path = getCurrentPath(); path != null; path = path.getParentPath()) {
            if (path.getLeaf() instanceof MethodTree) {
                calls.computeIfAbsent(nameOf(trees.getElement(path)), key -> new TreeSet<>())
                        .add(nameOf(to));
                return;
            }
        }
    }

    private boolean mayBeUsed(TypeMirror type) {
        if (type.getKind() == TypeKind.ARRAY) {
            TypeMirror part = ((ArrayType) type).getComponentType();
            return part.getKind() != TypeKind.ARRAY && mayBeUsed(part);
        }
        return type.getKind() == TypeKind.VOID || type.getKind() == TypeKind.INT
                || type.getKind() == TypeKind.LONG || type.getKind() == TypeKind.BOOLEAN
                || type.toString().equals("java.lang.String")
                || type.toString().startsWith("MountYard");
    }

    private boolean isText(Tree tree) {
        TypeMirror type = trees.getTypeMirror(new TreePath(getCurrentPath(), tree));
        return type != null && type.toString().equals("java.lang.String");
    }

    @Override
    public Void visitCompilationUnit(CompilationUnitTree unit, Void none) {
        rule(1, "a package line", unit.getPackageName() == null);
        rule(1, "one class in the file", unit.getTypeDecls().size() == 1);
        return super.visitCompilationUnit(unit, none);
    }

    @Override
    public Void visitImport(ImportTree tree, Void none) {
        rule(4, tree, "import of " + tree.getQualifiedIdentifier(), !tree.isStatic()
                && tree.getQualifiedIdentifier().toString()
                        .equals("java.util.NoSuchElementException"));
        return super.visitImport(tree, none);
    }

    @Override
    public Void visitClass(ClassTree tree, Void none) {
        classes++;
        Set<Modifier> flags = tree.getModifiers().getFlags();
        Tree around = getCurrentPath().getParentPath().getLeaf();
        rule(2, tree, "a class that is no class", tree.getKind() == Tree.Kind.CLASS
                && tree.getExtendsClause() == null && tree.getImplementsClause().isEmpty());
        if (around instanceof CompilationUnitTree) {
            rule(1, tree, "the face", flags.equals(Set.of(Modifier.PUBLIC, Modifier.FINAL)));
        } else {
            rule(1, tree, "a class inside that is not private and static",
                    flags.contains(Modifier.PRIVATE) && flags.contains(Modifier.STATIC));
            rule(2, tree, "a class in a method or without a name", around instanceof ClassTree
                    && !tree.getSimpleName().isEmpty());
        }
        int fields = 0;
        for (Tree member : tree.getMembers()) {
            fields += member instanceof VariableTree field
                    && !field.getModifiers().getFlags().contains(Modifier.STATIC) ? 1 : 0;
            rule(5, member, "an initialiser block", member.getKind() != Tree.Kind.BLOCK);
        }
        rule(11, tree, fields + " fields", fields <= 20);
        return super.visitClass(tree, none);
    }

    @Override
    public Void visitMethod(MethodTree tree, Void none) {
        CompilationUnitTree unit = getCurrentPath().getCompilationUnit();
        long begin = trees.getSourcePositions().getStartPosition(unit, tree);
        long end = trees.getSourcePositions().getEndPosition(unit, tree);
        if (end >= 0) {
            long lines = unit.getLineMap().getLineNumber(end)
                    - unit.getLineMap().getLineNumber(begin) + 1;
            rule(11, tree, lines + " lines", lines <= 60);
        }
        rule(11, tree, "more than seven parameters", tree.getParameters().size() <= 7);
        Set<Modifier> flags = tree.getModifiers().getFlags();
        if (flags.contains(Modifier.PUBLIC) && tree.getReturnType() != null) {
            open.add(tree.getName().toString());
        } else {
            hidden.add(tree.getName().toString());
        }
        if (tree.getReturnType() != null) {
            TypeMirror type = trees.getTypeMirror(
                    new TreePath(getCurrentPath(), tree.getReturnType()));
            rule(3, tree, "the type " + type, mayBeUsed(type));
            rule(6, tree, "a method that all objects have", !Set.of("equals", "hashCode",
                    "toString").contains(tree.getName().toString()));
        }
        calls.computeIfAbsent(nameOf(element()), key -> new TreeSet<>());
        return super.visitMethod(tree, none);
    }

    @Override
    public Void visitVariable(VariableTree tree, Void none) {
        rule(3, tree, "the type " + tree.getType(), mayBeUsed(element().asType()));
        Set<Modifier> flags = tree.getModifiers().getFlags();
        if (flags.contains(Modifier.STATIC)) {
            Object constant = ((VariableElement) element()).getConstantValue();
            rule(5, tree, "a static field that is no constant",
                    flags.contains(Modifier.FINAL) && constant != null);
        }
        return super.visitVariable(tree, none);
    }

    @Override
    public Void visitMethodInvocation(MethodInvocationTree tree, Void none) {
        Element called = element();
        if (isOwn(called)) {
            addCall(called);
        } else {
            String name = called.getEnclosingElement().getSimpleName() + "."
                    + called.getSimpleName();
            rule(4, tree, "a call of " + name,
                    LIBRARY.contains(name) || tree.toString().equals("super()"));
        }
        return super.visitMethodInvocation(tree, none);
    }

    @Override
    public Void visitNewClass(NewClassTree tree, Void none) {
        if (getCurrentPath().getParentPath().getLeaf() instanceof ThrowTree) {
            boolean written = tree.getArguments().isEmpty() || tree.getArguments().size() == 1
                    && tree.getArguments().get(0) instanceof LiteralTree text && isText(text);
            rule(6, tree, "throw " + tree, written && tree.getClassBody() == null
                    && THROWN.contains(tree.getIdentifier().toString()));
        } else {
            rule(4, tree, "an object that is not the program's own", isOwn(element()));
            rule(12, tree, "an object that a call makes", inConstructor());
            addCall(element());
        }
        return super.visitNewClass(tree, none);
    }

    @Override
    public Void visitNewArray(NewArrayTree tree, Void none) {
        rule(3, tree, "an array of arrays", tree.getDimensions().size() == 1);
        rule(12, tree, "an array that a call makes", inConstructor());
        return super.visitNewArray(tree, none);
    }

    @Override
    public Void visitThrow(ThrowTree tree, Void none) {
        rule(6, tree, "a throw of what is not new", tree.getExpression() instanceof NewClassTree);
        rule(6, tree, "a throw in a constructor", !inConstructor());
        return super.visitThrow(tree, none);
    }

    @Override
    public Void visitForLoop(ForLoopTree tree, Void none) {
        rule(9, tree, "a loop without a counter", tree.getCondition() != null
                && tree.getInitializer().size() == 1 && tree.getUpdate().size() == 1);
        return super.visitForLoop(tree, none);
    }

    @Override
    public Void visitTypeCast(TypeCastTree tree, Void none) {
        String type = tree.getType().toString();
        rule(6, tree, "a cast to " + type, type.equals("int") || type.equals("long"));
        return super.visitTypeCast(tree, none);
    }

    @Override
    public Void visitBinary(BinaryTree tree, Void none) {
        rule(10, tree, "texts joined or compared by a sign",
                !isText(tree.getLeftOperand()) && !isText(tree.getRightOperand()));
        rule(7, tree, "a division", tree.getKind() != Tree.Kind.DIVIDE
                && tree.getKind() != Tree.Kind.REMAINDER);
        return super.visitBinary(tree, none);
    }

    private Void refuse(int number, Tree tree) {
        rule(number, tree, tree.getKind().toString(), false);
        return null;
    }

    @Override
    public Void visitLambdaExpression(LambdaExpressionTree tree, Void none) {
        return refuse(2, tree);
    }

    @Override
    public Void visitMemberReference(MemberReferenceTree tree, Void none) {
        return refuse(2, tree);
    }

    @Override
    public Void visitTry(TryTree tree, Void none) {
        return refuse(6, tree);
    }

    @Override
    public Void visitSynchronized(SynchronizedTree tree, Void none) {
        return refuse(6, tree);
    }

    @Override
    public Void visitAssert(AssertTree tree, Void none) {
        return refuse(6, tree);
    }

    @Override
    public Void visitInstanceOf(InstanceOfTree tree, Void none) {
        return refuse(6, tree);
    }

    @Override
    public Void visitWhileLoop(WhileLoopTree tree, Void none) {
        return refuse(9, tree);
    }

    @Override
    public Void visitDoWhileLoop(DoWhileLoopTree tree, Void none) {
        return refuse(9, tree);
    }
}
