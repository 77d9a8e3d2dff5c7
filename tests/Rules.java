import com.sun.source.tree.AnnotationTree;
import com.sun.source.tree.BinaryTree;
import com.sun.source.tree.BlockTree;
import com.sun.source.tree.ClassTree;
import com.sun.source.tree.CompilationUnitTree;
import com.sun.source.tree.DoWhileLoopTree;
import com.sun.source.tree.EnhancedForLoopTree;
import com.sun.source.tree.ForLoopTree;
import com.sun.source.tree.IdentifierTree;
import com.sun.source.tree.ImportTree;
import com.sun.source.tree.MemberSelectTree;
import com.sun.source.tree.MethodInvocationTree;
import com.sun.source.tree.MethodTree;
import com.sun.source.tree.NewArrayTree;
import com.sun.source.tree.NewClassTree;
import com.sun.source.tree.Tree;
import com.sun.source.tree.TypeCastTree;
import com.sun.source.tree.VariableTree;
import com.sun.source.tree.WhileLoopTree;
import com.sun.source.util.TreePath;
import com.sun.source.util.TreePathScanner;
import com.sun.source.util.Trees;
import java.util.ArrayDeque;
import java.util.Deque;
import java.util.HashMap;
import java.util.HashSet;
import java.util.LinkedHashMap;
import java.util.LinkedHashSet;
import java.util.Map;
import java.util.Set;
import javax.lang.model.element.Element;
import javax.lang.model.element.ElementKind;
import javax.lang.model.element.Modifier;
import javax.lang.model.element.TypeElement;
import javax.lang.model.element.VariableElement;
import javax.lang.model.type.ArrayType;
import javax.lang.model.type.DeclaredType;
import javax.lang.model.type.TypeKind;
import javax.lang.model.type.TypeMirror;

/** Walks over the program's tree and checks the rules of LANGUAGE.md, by their numbers. */
final class Rules extends TreePathScanner<Void, Void> {
    /** Of rule 4 what the program needs; whoever needs more of it adds it here. */
    private static final Set<String> LIBRARY = Set.of("java.lang.Object.<init>", "java.lang.System.arraycopy",
            "java.util.Arrays.fill", "java.lang.Integer.bitCount", "java.lang.Math.max");
    private static final Set<Tree.Kind> FORBIDDEN = Set.of(Tree.Kind.THROW, Tree.Kind.TRY, Tree.Kind.CATCH,
            Tree.Kind.SYNCHRONIZED, Tree.Kind.ASSERT, Tree.Kind.INSTANCE_OF, Tree.Kind.LAMBDA_EXPRESSION,
            Tree.Kind.MEMBER_REFERENCE, Tree.Kind.SWITCH_EXPRESSION);
    private static final Set<TypeKind> NUMBERS = Set.of(TypeKind.INT, TypeKind.LONG, TypeKind.SHORT,
            TypeKind.BYTE, TypeKind.CHAR, TypeKind.BOOLEAN);
    private static final Set<String> OF_EVERY_OBJECT = Set.of("equals", "hashCode", "toString");
    private static final int MOST_LINES = 60;
    private static final int MOST_PARAMETERS = 7;
    private static final int MOST_CLASSES = 12;
    private static final int MOST_FIELDS = 20;
    private static final int DEEPEST_CALLS = 8;

    private final Trees trees;
    private final CompilationUnitTree unit;
    /** Who calls whom; what the fields' initialisers call counts for the constructors. */
    private final Map<Element, Set<Element>> calls = new LinkedHashMap<>();
    private final Map<Element, Integer> fields = new HashMap<>();
    private final Set<String> publicNames = new HashSet<>();
    private final Set<String> otherNames = new HashSet<>();
    private final Deque<Element> open = new ArrayDeque<>();
    private int classes = 0;

    Rules(Trees trees, CompilationUnitTree unit) {
        this.trees = trees;
        this.unit = unit;
    }

    void checkWhole() {
        Check.that("rule 11: some twelve classes, not " + classes, classes <= MOST_CLASSES);
        fields.forEach((type, count) ->
                Check.that("rule 11: " + type + " has " + count + " fields", count <= MOST_FIELDS));
        for (String name : otherNames) {
            Check.that("rule 1: " + name + " is no public name too", !publicNames.contains(name));
        }
        Map<Element, Integer> depths = new HashMap<>();
        for (Element method : calls.keySet()) {
            int depth = depth(method, depths, new LinkedHashSet<>());
            Check.that("rule 11: calls of " + method + " go " + depth + " deep", depth <= DEEPEST_CALLS);
        }
    }

    /** How many calls stand open at once below a method, itself counted. */
    private int depth(Element method, Map<Element, Integer> depths, Set<Element> above) {
        if (!above.add(method)) {
            Check.that("rule 8: " + method + " calls itself: " + above, false);
            return 0;
        }
        int below = 0;
        for (Element callee : calls.getOrDefault(method, Set.of())) {
            Integer known = depths.get(callee);
            below = Math.max(below, known != null ? known : depth(callee, depths, above));
        }
        above.remove(method);
        depths.put(method, below + 1);
        return below + 1;
    }

    private Element element(Tree tree) {
        return trees.getElement(new TreePath(getCurrentPath(), tree));
    }

    private TypeMirror type(Tree tree) {
        return trees.getTypeMirror(new TreePath(getCurrentPath(), tree));
    }

    private String at(Tree tree) {
        long start = trees.getSourcePositions().getStartPosition(unit, tree);
        return "line " + unit.getLineMap().getLineNumber(Math.max(start, 0)) + ", ";
    }

    private static boolean isOwn(Element element) {
        Element outermost = element;
        while (outermost.getEnclosingElement() != null
                && outermost.getEnclosingElement().getKind() != ElementKind.PACKAGE) {
            outermost = outermost.getEnclosingElement();
        }
        return outermost.getSimpleName().contentEquals("HidingBoxes");
    }

    private static boolean isAllowed(TypeMirror type) {
        if (type instanceof ArrayType array) {
            return isAllowed(array.getComponentType());
        }
        if (type instanceof DeclaredType declared) {
            return isOwn(declared.asElement());
        }
        return NUMBERS.contains(type.getKind());
    }

    @Override
    public Void scan(Tree tree, Void none) {
        if (tree != null) {
            Check.that("rules 2, 6: " + at(tree) + tree.getKind(), !FORBIDDEN.contains(tree.getKind()));
        }
        return super.scan(tree, none);
    }

    @Override
    public Void visitImport(ImportTree tree, Void none) {
        Check.that("rule 4: " + tree, tree.toString().trim().equals("import java.util.Arrays;"));
        return null;
    }

    @Override
    public Void visitAnnotation(AnnotationTree tree, Void none) {
        Check.that("rule 4: " + at(tree) + tree, false);
        return null;
    }

    @Override
    public Void visitClass(ClassTree tree, Void none) {
        classes++;
        Set<Modifier> modifiers = tree.getModifiers().getFlags();
        boolean isOutermost = getCurrentPath().getParentPath().getLeaf() == unit;
        boolean isInClass = getCurrentPath().getParentPath().getLeaf() instanceof ClassTree;
        String name = at(tree) + "class " + tree.getSimpleName();
        Check.that("rule 2: " + name, isOutermost || isInClass && modifiers.contains(Modifier.STATIC));
        Check.that("rule 1: " + name + " is " + modifiers, isOutermost
                ? modifiers.equals(Set.of(Modifier.PUBLIC, Modifier.FINAL))
                : !modifiers.contains(Modifier.PUBLIC) && !modifiers.contains(Modifier.PROTECTED));
        open.push(trees.getElement(getCurrentPath()));
        super.visitClass(tree, none);
        open.pop();
        return null;
    }

    @Override
    public Void visitBlock(BlockTree tree, Void none) {
        boolean isInitialiser = getCurrentPath().getParentPath().getLeaf() instanceof ClassTree;
        Check.that("rule 5: " + at(tree) + "a block outside of methods", !isInitialiser);
        return super.visitBlock(tree, none);
    }

    @Override
    public Void visitMethod(MethodTree tree, Void none) {
        Element method = trees.getElement(getCurrentPath());
        String name = at(tree) + tree.getName();
        boolean isConstructor = method.getKind() == ElementKind.CONSTRUCTOR;
        if (!isConstructor) {
            boolean isPublic = method.getModifiers().contains(Modifier.PUBLIC);
            (isPublic ? publicNames : otherNames).add(tree.getName().toString());
            TypeMirror answer = type(tree.getReturnType());
            Check.that("rule 3: " + name, answer.getKind() == TypeKind.VOID || isAllowed(answer));
        }
        Check.that("rule 6: " + name, !OF_EVERY_OBJECT.contains(tree.getName().toString()));
        Check.that("rule 6: " + name + " throws nothing", tree.getThrows().isEmpty());
        Check.that("rule 11: " + name + " has few parameters", tree.getParameters().size() <= MOST_PARAMETERS);
        Check.that("rule 11: " + name + " is short", lines(tree) <= MOST_LINES);
        calls.computeIfAbsent(method, m -> new LinkedHashSet<>());
        if (isConstructor) {
            calls.get(method).addAll(calls.getOrDefault(method.getEnclosingElement(), Set.of()));
        }
        open.push(method);
        super.visitMethod(tree, none);
        open.pop();
        return null;
    }

    private long lines(Tree tree) {
        long start = trees.getSourcePositions().getStartPosition(unit, tree);
        long end = trees.getSourcePositions().getEndPosition(unit, tree);
        return end < 0 ? 1 : unit.getLineMap().getLineNumber(end) - unit.getLineMap().getLineNumber(start) + 1;
    }

    @Override
    public Void visitVariable(VariableTree tree, Void none) {
        Element variable = trees.getElement(getCurrentPath());
        String name = at(tree) + tree.getName();
        Check.that("rule 3: " + name + " is of " + variable.asType(), isAllowed(variable.asType()));
        if (variable.getKind() == ElementKind.FIELD) {
            boolean isStatic = variable.getModifiers().contains(Modifier.STATIC);
            boolean isConstant = ((VariableElement) variable).getConstantValue() != null;
            Check.that("rule 5: " + name + " is a constant", !isStatic || isConstant);
            if (!isStatic) {
                fields.merge(variable.getEnclosingElement(), 1, Integer::sum);
                Check.that("rule 1: " + name + " is private", variable.getModifiers().contains(Modifier.PRIVATE)
                        || ((TypeElement) variable.getEnclosingElement()).getNestingKind().isNested());
            }
        }
        return super.visitVariable(tree, none);
    }

    private void called(Tree tree, Element callee) {
        String name = callee.getEnclosingElement() + "." + callee.getSimpleName();
        if (isOwn(callee)) {
            calls.computeIfAbsent(open.peek(), m -> new LinkedHashSet<>()).add(callee);
        } else {
            Check.that("rule 4: " + at(tree) + name, LIBRARY.contains(name));
        }
    }

    @Override
    public Void visitMethodInvocation(MethodInvocationTree tree, Void none) {
        called(tree, element(tree.getMethodSelect()));
        return super.visitMethodInvocation(tree, none);
    }

    /** Whether what is made here is made once, by a constructor, and not by each call. */
    private boolean isMadeOnce() {
        ElementKind maker = open.peek().getKind();
        return maker.isClass() || maker == ElementKind.CONSTRUCTOR;
    }

    @Override
    public Void visitNewClass(NewClassTree tree, Void none) {
        Check.that("rule 2: " + at(tree) + "no class without a name", tree.getClassBody() == null);
        Check.that("rule 12: " + at(tree) + tree, isMadeOnce());
        called(tree, trees.getElement(getCurrentPath()));
        return super.visitNewClass(tree, none);
    }

    @Override
    public Void visitNewArray(NewArrayTree tree, Void none) {
        Check.that("rule 12: " + at(tree) + tree, isMadeOnce());
        return super.visitNewArray(tree, none);
    }

    @Override
    public Void visitIdentifier(IdentifierTree tree, Void none) {
        Element element = trees.getElement(getCurrentPath());
        boolean isForeignField = element != null && element.getKind() == ElementKind.FIELD && !isOwn(element);
        Check.that("rule 4: " + at(tree) + tree, !isForeignField);
        return super.visitIdentifier(tree, none);
    }

    @Override
    public Void visitMemberSelect(MemberSelectTree tree, Void none) {
        Element element = trees.getElement(getCurrentPath());
        boolean isLength = tree.getIdentifier().contentEquals("length")
                && type(tree.getExpression()).getKind() == TypeKind.ARRAY;
        boolean isForeignField = element != null && element.getKind() == ElementKind.FIELD && !isOwn(element);
        Check.that("rule 4: " + at(tree) + tree, isLength || !isForeignField);
        return super.visitMemberSelect(tree, none);
    }

    @Override
    public Void visitBinary(BinaryTree tree, Void none) {
        boolean isOfNumbers = type(tree.getLeftOperand()).getKind().isPrimitive()
                && type(tree.getRightOperand()).getKind().isPrimitive();
        Check.that("rules 6, 10: " + at(tree) + tree, isOfNumbers);
        return super.visitBinary(tree, none);
    }

    @Override
    public Void visitTypeCast(TypeCastTree tree, Void none) {
        Check.that("rule 6: " + at(tree) + tree, type(tree.getType()).getKind().isPrimitive());
        return super.visitTypeCast(tree, none);
    }

    @Override
    public Void visitForLoop(ForLoopTree tree, Void none) {
        boolean hasEnd = tree.getCondition() != null && tree.getInitializer().size() == 1
                && tree.getUpdate().size() == 1;
        Check.that("rule 9: " + at(tree) + "a counter against a bound", hasEnd);
        return super.visitForLoop(tree, none);
    }

    @Override
    public Void visitEnhancedForLoop(EnhancedForLoopTree tree, Void none) {
        Check.that("rule 9: " + at(tree) + "over an array", type(tree.getExpression()).getKind() == TypeKind.ARRAY);
        return super.visitEnhancedForLoop(tree, none);
    }

    @Override
    public Void visitWhileLoop(WhileLoopTree tree, Void none) {
        Check.that("rule 9: " + at(tree) + "a loop without a counter", false);
        return null;
    }

    @Override
    public Void visitDoWhileLoop(DoWhileLoopTree tree, Void none) {
        Check.that("rule 9: " + at(tree) + "a loop without a counter", false);
        return null;
    }
}
