import com.sun.source.tree.BinaryTree;
import com.sun.source.tree.ClassTree;
import com.sun.source.tree.CompilationUnitTree;
import com.sun.source.tree.ExpressionTree;
import com.sun.source.tree.ForLoopTree;
import com.sun.source.tree.IdentifierTree;
import com.sun.source.tree.ImportTree;
import com.sun.source.tree.LiteralTree;
import com.sun.source.tree.MethodInvocationTree;
import com.sun.source.tree.MethodTree;
import com.sun.source.tree.ModifiersTree;
import com.sun.source.tree.NewArrayTree;
import com.sun.source.tree.NewClassTree;
import com.sun.source.tree.ThrowTree;
import com.sun.source.tree.Tree;
import com.sun.source.tree.TypeCastTree;
import com.sun.source.tree.VariableTree;
import com.sun.source.tree.WhileLoopTree;
import com.sun.source.util.JavacTask;
import com.sun.source.util.TreePath;
import com.sun.source.util.TreePathScanner;
import com.sun.source.util.Trees;
import java.io.File;
import java.io.IOException;
import java.nio.file.Files;
import java.nio.file.Path;
import java.util.ArrayList;
import java.util.EnumSet;
import java.util.HashSet;
import java.util.LinkedHashMap;
import java.util.List;
import java.util.Map;
import java.util.Set;
import java.util.TreeSet;
import javax.lang.model.element.Element;
import javax.lang.model.element.ElementKind;
import javax.lang.model.element.Modifier;
import javax.lang.model.element.TypeElement;
import javax.lang.model.element.VariableElement;
import javax.lang.model.type.ArrayType;
import javax.lang.model.type.TypeKind;
import javax.lang.model.type.TypeMirror;
import javax.tools.JavaCompiler;
import javax.tools.StandardJavaFileManager;
import javax.tools.ToolProvider;

/** The rules of LANGUAGE.md that can be seen in the program's text, as the compiler reads it. */
public final class LanguageTest extends TreePathScanner<Void, Void> {
    private static final Path PROGRAM = Path.of("src/main/java/Stormcellar.java");
    private static final Set<String> EXCEPTIONS = Set.of("IllegalStateException", "IllegalArgumentException",
            "IndexOutOfBoundsException", "ArithmeticException", "UnsupportedOperationException",
            "NoSuchElementException", "RuntimeException");
    private static final Set<String> LIBRARY = Set.of("java.util.Arrays.fill", "java.lang.Math.abs");
    private static final Set<TypeKind> CONSTANTS =
            EnumSet.of(TypeKind.INT, TypeKind.LONG, TypeKind.BOOLEAN, TypeKind.CHAR);

    private static final Set<Modifier> FLAGS =
            EnumSet.of(Modifier.PUBLIC, Modifier.PRIVATE, Modifier.STATIC, Modifier.FINAL);

    /** What the rules leave of the language, less what the program has no need of. */
    private static final Set<Tree.Kind> KINDS = EnumSet.of(
            Tree.Kind.COMPILATION_UNIT, Tree.Kind.IMPORT, Tree.Kind.CLASS, Tree.Kind.METHOD, Tree.Kind.VARIABLE,
            Tree.Kind.MODIFIERS, Tree.Kind.BLOCK, Tree.Kind.EMPTY_STATEMENT, Tree.Kind.EXPRESSION_STATEMENT,
            Tree.Kind.IF, Tree.Kind.FOR_LOOP, Tree.Kind.ENHANCED_FOR_LOOP, Tree.Kind.WHILE_LOOP,
            Tree.Kind.DO_WHILE_LOOP, Tree.Kind.SWITCH, Tree.Kind.CASE, Tree.Kind.BREAK, Tree.Kind.CONTINUE,
            Tree.Kind.LABELED_STATEMENT, Tree.Kind.RETURN, Tree.Kind.THROW, Tree.Kind.IDENTIFIER,
            Tree.Kind.MEMBER_SELECT, Tree.Kind.PRIMITIVE_TYPE, Tree.Kind.ARRAY_TYPE, Tree.Kind.ARRAY_ACCESS,
            Tree.Kind.NEW_ARRAY, Tree.Kind.NEW_CLASS, Tree.Kind.METHOD_INVOCATION, Tree.Kind.ASSIGNMENT,
            Tree.Kind.CONDITIONAL_EXPRESSION, Tree.Kind.PARENTHESIZED, Tree.Kind.TYPE_CAST,
            Tree.Kind.INT_LITERAL, Tree.Kind.LONG_LITERAL, Tree.Kind.FLOAT_LITERAL, Tree.Kind.DOUBLE_LITERAL,
            Tree.Kind.BOOLEAN_LITERAL, Tree.Kind.CHAR_LITERAL, Tree.Kind.STRING_LITERAL, Tree.Kind.NULL_LITERAL,
            Tree.Kind.PLUS, Tree.Kind.MINUS, Tree.Kind.MULTIPLY, Tree.Kind.DIVIDE, Tree.Kind.REMAINDER,
            Tree.Kind.UNARY_MINUS, Tree.Kind.LOGICAL_COMPLEMENT, Tree.Kind.CONDITIONAL_AND, Tree.Kind.CONDITIONAL_OR,
            Tree.Kind.EQUAL_TO, Tree.Kind.NOT_EQUAL_TO, Tree.Kind.LESS_THAN, Tree.Kind.LESS_THAN_EQUAL,
            Tree.Kind.GREATER_THAN, Tree.Kind.GREATER_THAN_EQUAL, Tree.Kind.POSTFIX_INCREMENT,
            Tree.Kind.POSTFIX_DECREMENT, Tree.Kind.PREFIX_INCREMENT, Tree.Kind.PREFIX_DECREMENT,
            Tree.Kind.PLUS_ASSIGNMENT, Tree.Kind.MINUS_ASSIGNMENT);

    private final Trees trees;
    private final CompilationUnitTree file;
    private final Map<Element, Set<Element>> calls = new LinkedHashMap<>();
    private final Set<String> face = new TreeSet<>();
    private final Set<String> hidden = new TreeSet<>();
    private int classes;

    private LanguageTest(Trees itsTrees, CompilationUnitTree itsFile) {
        trees = itsTrees;
        file = itsFile;
    }

    public static void main(String[] args) throws IOException {
        JavaCompiler compiler = ToolProvider.getSystemJavaCompiler();
        try (StandardJavaFileManager files = compiler.getStandardFileManager(null, null, null)) {
            JavacTask task = (JavacTask) compiler.getTask(null, files, null, List.of("-proc:none"),
                    null, files.getJavaFileObjects(new File(PROGRAM.toString())));
            CompilationUnitTree file = task.parse().iterator().next();
            task.analyze();
            new LanguageTest(Trees.instance(task), file).look();
        }
        for (String line : Files.readAllLines(PROGRAM)) {
            Check.isTrue("3: plain signs alone: " + line, line.chars().allMatch(c -> c >= 32 && c < 127));
        }
        Check.end();
    }

    private void look() {
        Check.isTrue("no package line", file.getPackageName() == null);
        Check.is("1: one class stands outside", file.getTypeDecls().size(), 1);
        scan(file, null);
        Check.isTrue("11: some twelve classes", classes <= 12);
        for (String name : hidden) {
            Check.isFalse("1: no other method bears the public name " + name, face.contains(name));
        }
        int deepest = 0;
        for (Element method : calls.keySet()) {
            deepest = Math.max(deepest, depth(method, new ArrayList<>()));
        }
        Check.isTrue("11: calls go " + deepest + " deep, eight at most", deepest <= 8);
    }

    private int depth(Element method, List<Element> open) {
        if (open.contains(method)) {
            Check.isFalse("8: " + method + " calls itself", true);
            return 0;
        }
        open.add(method);
        int deepest = 0;
        for (Element called : calls.getOrDefault(method, Set.of())) {
            deepest = Math.max(deepest, depth(called, open));
        }
        open.remove(method);
        return deepest + 1;
    }

    @Override
    public Void scan(Tree tree, Void none) {
        if (tree != null) {
            Check.isTrue(where(tree) + "the language has no " + tree.getKind(), KINDS.contains(tree.getKind()));
        }
        return super.scan(tree, none);
    }

    @Override
    public Void visitImport(ImportTree tree, Void none) {
        String name = tree.getQualifiedIdentifier().toString();
        Check.isTrue("4: " + name, name.equals("java.util.Arrays") || name.equals("java.util.NoSuchElementException"));
        return null;
    }

    @Override
    public Void visitClass(ClassTree tree, Void none) {
        classes++;
        Set<Modifier> flags = tree.getModifiers().getFlags();
        boolean isOuter = getCurrentPath().getParentPath().getLeaf() == file;
        Check.isTrue("1: " + tree.getSimpleName() + " is public and final or hidden and static",
                isOuter ? flags.equals(EnumSet.of(Modifier.PUBLIC, Modifier.FINAL))
                        : flags.contains(Modifier.STATIC) && !flags.contains(Modifier.PUBLIC)
                                && !flags.contains(Modifier.PROTECTED));
        int fields = 0;
        for (Tree member : tree.getMembers()) {
            Check.isFalse("5: a static block", member.getKind() == Tree.Kind.BLOCK);
            if (member instanceof VariableTree) {
                Set<Modifier> its = ((VariableTree) member).getModifiers().getFlags();
                fields += its.contains(Modifier.STATIC) ? 0 : 1;
                Check.isTrue("1: " + member + " is private", !isOuter || its.contains(Modifier.PRIVATE));
            }
        }
        Check.isTrue("11: " + tree.getSimpleName() + " has some twenty fields", fields <= 20);
        return super.visitClass(tree, none);
    }

    @Override
    public Void visitMethod(MethodTree tree, Void none) {
        long lines = line(trees.getSourcePositions().getEndPosition(file, tree)) - line(start(tree)) + 1;
        Check.isTrue("11: " + tree.getName() + " is short", lines <= 60);
        Check.isTrue("11: " + tree.getName() + " takes seven parameters at most", tree.getParameters().size() <= 7);
        boolean isOuter = getCurrentPath().getParentPath().getParentPath().getLeaf() == file;
        boolean isPublic = tree.getModifiers().getFlags().contains(Modifier.PUBLIC);
        Check.isTrue("1: " + tree.getName() + " is public or private",
                !isOuter || isPublic || tree.getModifiers().getFlags().contains(Modifier.PRIVATE));
        if (!isConstructor(getCurrentPath())) {
            (isOuter && isPublic ? face : hidden).add(tree.getName().toString());
        }
        return super.visitMethod(tree, none);
    }

    @Override
    public Void visitModifiers(ModifiersTree tree, Void none) {
        Check.isTrue(where(tree) + "no such word: " + tree.getFlags(), FLAGS.containsAll(tree.getFlags()));
        return super.visitModifiers(tree, none);
    }

    @Override
    public Void visitVariable(VariableTree tree, Void none) {
        VariableElement variable = (VariableElement) trees.getElement(getCurrentPath());
        if (variable.getModifiers().contains(Modifier.STATIC)) {
            Check.isTrue("5: " + variable + " is a constant", variable.getModifiers().contains(Modifier.FINAL)
                    && CONSTANTS.contains(variable.asType().getKind()) && variable.getConstantValue() != null);
        }
        return super.visitVariable(tree, none);
    }

    @Override
    public Void visitIdentifier(IdentifierTree tree, Void none) {
        Element element = trees.getElement(getCurrentPath());
        Check.isTrue(where(tree) + "the name is known", element != null);
        if (element instanceof TypeElement) {
            String name = tree.getName().toString();
            Check.isTrue(where(tree) + "4: " + name, isOwn(element) || EXCEPTIONS.contains(name)
                    || name.equals("Arrays") || name.equals("Math"));
        }
        if (tree.getName().contentEquals("this")) {
            Check.isFalse(where(tree) + "12: a constructor hands nothing out", isConstructor(method()));
        }
        return super.visitIdentifier(tree, none);
    }

    @Override
    public Void visitMethodInvocation(MethodInvocationTree tree, Void none) {
        Element called = trees.getElement(getCurrentPath());
        if (isOwn(called)) {
            note(called);
            boolean isHeldBack = called.getModifiers().contains(Modifier.PRIVATE)
                    || called.getEnclosingElement().getModifiers().contains(Modifier.FINAL);
            Check.isTrue(where(tree) + "12: nothing can override " + called, isHeldBack);
        } else if (called.getKind() != ElementKind.CONSTRUCTOR) {
            String name = called.getEnclosingElement() + "." + called.getSimpleName();
            Check.isTrue(where(tree) + "4: " + name, LIBRARY.contains(name));
        }
        for (ExpressionTree argument : tree.getArguments()) {
            Check.isTrue(where(tree) + "4: the library is called with int and long alone",
                    isOwn(called) || isWhole(argument));
        }
        return super.visitMethodInvocation(tree, none);
    }

    /** An exception in a throw may be made anywhere, anything else in a constructor alone, so that no call makes it. */
    @Override
    public Void visitNewClass(NewClassTree tree, Void none) {
        Element called = trees.getElement(getCurrentPath());
        Tree parent = getCurrentPath().getParentPath().getLeaf();
        if (parent instanceof ThrowTree) {
            List<? extends ExpressionTree> texts = tree.getArguments();
            Check.isTrue(where(tree) + "6: an exception of the rule", EXCEPTIONS.contains(tree.getIdentifier() + ""));
            Check.isTrue(where(tree) + "6: a written text",
                    texts.isEmpty() || texts.size() == 1 && texts.get(0).getKind() == Tree.Kind.STRING_LITERAL);
        } else {
            Check.isTrue(where(tree) + "12: an own class, made once", isOwn(called) && isMadeOnce());
            note(called);
        }
        Check.isTrue(where(tree) + "no anonymous class", tree.getClassBody() == null);
        return super.visitNewClass(tree, none);
    }

    @Override
    public Void visitNewArray(NewArrayTree tree, Void none) {
        Check.isTrue(where(tree) + "12: rows are made once", isMadeOnce());
        Check.is(where(tree) + "3: dimensions", tree.getDimensions().size(), 1);
        Check.isTrue(where(tree) + "7: the length is a constant above 0", isConstantAboveZero(tree.getDimensions().get(0)));
        return super.visitNewArray(tree, none);
    }

    @Override
    public Void visitThrow(ThrowTree tree, Void none) {
        Check.isTrue(where(tree) + "6: throw new", tree.getExpression() instanceof NewClassTree);
        Check.isFalse(where(tree) + "6: no throw in a constructor", isConstructor(method()));
        return super.visitThrow(tree, none);
    }

    @Override
    public Void visitForLoop(ForLoopTree tree, Void none) {
        Check.isTrue(where(tree) + "9: an end that can be seen", tree.getCondition() instanceof BinaryTree
                && tree.getUpdate().size() == 1);
        return super.visitForLoop(tree, none);
    }

    @Override
    public Void visitWhileLoop(WhileLoopTree tree, Void none) {
        Check.isFalse(where(tree) + "9: an end that can be seen", tree.getCondition().toString().contains("true"));
        return super.visitWhileLoop(tree, none);
    }

    @Override
    public Void visitTypeCast(TypeCastTree tree, Void none) {
        Check.isTrue(where(tree) + "7: casts of numbers alone", isOfNumbers(tree) && isOfNumbers(tree.getExpression()));
        return super.visitTypeCast(tree, none);
    }

    @Override
    public Void visitBinary(BinaryTree tree, Void none) {
        if (tree.getKind() == Tree.Kind.DIVIDE || tree.getKind() == Tree.Kind.REMAINDER) {
            Check.isTrue(where(tree) + "7: the divisor is not 0",
                    isConstantAboveZero(tree.getRightOperand()) || isTestedForZero(tree.getRightOperand()));
        }
        if (tree.getKind() == Tree.Kind.REMAINDER || tree.getKind() == Tree.Kind.PLUS) {
            Check.isTrue(where(tree) + "10: of numbers alone",
                    isOfNumbers(tree.getLeftOperand()) && isOfNumbers(tree.getRightOperand()));
        }
        return super.visitBinary(tree, none);
    }

    private boolean isConstantAboveZero(ExpressionTree tree) {
        if (tree instanceof LiteralTree) {
            return ((Number) ((LiteralTree) tree).getValue()).doubleValue() > 0;
        }
        if (tree instanceof BinaryTree && tree.getKind() == Tree.Kind.MULTIPLY) {
            return isConstantAboveZero(((BinaryTree) tree).getLeftOperand())
                    && isConstantAboveZero(((BinaryTree) tree).getRightOperand());
        }
        Element element = trees.getElement(new TreePath(getCurrentPath(), tree));
        Object value = element instanceof VariableElement ? ((VariableElement) element).getConstantValue() : null;
        return value instanceof Integer && (Integer) value > 0;
    }

    /** In the document a mean over nothing throws: so the method has a throw behind a test of the divisor. */
    private boolean isTestedForZero(ExpressionTree tree) {
        String divisor = tree.toString().replaceAll("\\(\\w+\\)", "");
        String before = method().getLeaf().toString();
        int test = before.indexOf("if (" + divisor + " == 0) {");
        return test >= 0 && test < before.indexOf("throw new ArithmeticException")
                && before.indexOf("throw new ArithmeticException") < before.indexOf(tree.toString());
    }

    private boolean isOfNumbers(ExpressionTree tree) {
        TypeKind kind = trees.getTypeMirror(new TreePath(getCurrentPath(), tree)).getKind();
        return kind.isPrimitive() && kind != TypeKind.BOOLEAN;
    }

    private boolean isWhole(ExpressionTree tree) {
        TypeMirror type = trees.getTypeMirror(new TreePath(getCurrentPath(), tree));
        TypeKind kind = type instanceof ArrayType ? ((ArrayType) type).getComponentType().getKind() : type.getKind();
        return kind == TypeKind.INT || kind == TypeKind.LONG;
    }

    private void note(Element called) {
        TreePath from = method();
        if (from != null) {
            calls.computeIfAbsent(trees.getElement(from), key -> new HashSet<>()).add(called);
        }
    }

    private boolean isMadeOnce() {
        return method() == null || isConstructor(method());
    }

    /** The path of the method that holds this place, or null in a field's own beginning. */
    private TreePath method() {
        TreePath path = getCurrentPath();
        while (path != null && !(path.getLeaf() instanceof MethodTree)) {
            path = path.getParentPath();
        }
        return path;
    }

    private boolean isConstructor(TreePath path) {
        return path != null && trees.getElement(path).getKind() == ElementKind.CONSTRUCTOR;
    }

    private boolean isOwn(Element element) {
        TreePath path = trees.getPath(element);
        return path != null && path.getCompilationUnit() == file;
    }

    private long start(Tree tree) {
        return trees.getSourcePositions().getStartPosition(file, tree);
    }

    private long line(long position) {
        return position < 0 ? 0 : file.getLineMap().getLineNumber(position);
    }

    private String where(Tree tree) {
        return "line " + line(start(tree)) + ": ";
    }
}
