import com.sun.source.tree.*;
import com.sun.source.util.JavacTask;
import com.sun.source.util.TreePath;
import com.sun.source.util.TreePathScanner;
import com.sun.source.util.Trees;
import java.nio.file.Path;
import java.util.ArrayList;
import java.util.Collections;
import java.util.HashMap;
import java.util.LinkedHashMap;
import java.util.LinkedHashSet;
import java.util.List;
import java.util.Map;
import java.util.Set;
import java.util.TreeSet;
import javax.lang.model.element.Element;
import javax.lang.model.element.ElementKind;
import javax.lang.model.element.ExecutableElement;
import javax.lang.model.element.Modifier;
import javax.lang.model.element.TypeElement;
import javax.lang.model.element.VariableElement;
import javax.lang.model.type.ArrayType;
import javax.lang.model.type.TypeKind;
import javax.lang.model.type.TypeMirror;
import javax.tools.JavaCompiler;
import javax.tools.StandardJavaFileManager;
import javax.tools.ToolProvider;

/**
 * ../shared/LANGUAGE.md's rules by the compiler's own trees of the class: which library calls it makes, which kinds of
 * statements and types it has, how deep its calls go (.ci/run starts it in the root).
 */
public final class TreesTest extends TreePathScanner<Void, Void> {
    private static final Set<String> LIBRARY = Set.of("java.lang.Integer.bitCount", "java.lang.Math.max", "java.lang.Math.min",
        "java.lang.Math.abs", "java.util.Arrays.fill", "java.util.Arrays.copyOf", "java.lang.System.arraycopy",
        "java.lang.String.length", "java.lang.String.charAt", "java.lang.Object.<init>");
    private static final Set<Tree.Kind> RULED_OUT = Set.of(Tree.Kind.LAMBDA_EXPRESSION, Tree.Kind.MEMBER_REFERENCE,
        Tree.Kind.THROW, Tree.Kind.TRY, Tree.Kind.CATCH, Tree.Kind.SYNCHRONIZED, Tree.Kind.ASSERT, Tree.Kind.BINDING_PATTERN,
        Tree.Kind.DOUBLE_LITERAL, Tree.Kind.FLOAT_LITERAL);
    private static final int DEEPEST = 8;
    private static int wrong = 0;

    private final Trees trees;
    private final Map<Element, Set<Element>> calls = new LinkedHashMap<>();
    private final Map<Element, MethodTree> bodies = new HashMap<>();

    private TreesTest(Trees trees) {
        this.trees = trees;
    }

    public static void main(String[] args) throws Exception {
        JavaCompiler compiler = ToolProvider.getSystemJavaCompiler();
        try (StandardJavaFileManager files = compiler.getStandardFileManager(null, null, null)) {
            JavacTask task = (JavacTask) compiler.getTask(null, files, null, List.of("--release", "17"), null,
                files.getJavaFileObjects(Path.of("src/main/java/DowryBoxes.java")));
            Iterable<? extends CompilationUnitTree> units = task.parse();
            task.analyze();
            TreesTest test = new TreesTest(Trees.instance(task));
            for (CompilationUnitTree unit : units) {
                test.scan(unit, null);
            }
            test.depths();
        }
        if (wrong != 0) {
            System.exit(1);
        }
        System.out.println("the trees are as the language wants them");
    }

    private static void want(boolean so, String rule) {
        if (!so) {
            wrong++;
            System.out.println("not kept: " + rule);
        }
    }

    @Override
    public Void scan(Tree tree, Void nothing) {
        if (tree != null) {
            want(!RULED_OUT.contains(tree.getKind()), "2, 6: " + tree.getKind() + " in " + tree);
        }
        return super.scan(tree, nothing);
    }

    @Override
    public Void visitClass(ClassTree tree, Void nothing) {
        Element element = trees.getElement(getCurrentPath());
        boolean outer = element.getEnclosingElement().getKind() == ElementKind.PACKAGE;
        want(outer || element.getModifiers().contains(Modifier.STATIC), "2: " + tree.getSimpleName() + " is static");
        want(outer || element.getEnclosingElement().getKind() == ElementKind.CLASS, "2: " + tree.getSimpleName());
        for (Tree member : tree.getMembers()) {
            want(!(member instanceof BlockTree), "5: no initialiser block in " + tree.getSimpleName());
        }
        return super.visitClass(tree, nothing);
    }

    @Override
    public Void visitMethod(MethodTree tree, Void nothing) {
        Element method = trees.getElement(getCurrentPath());
        calls.computeIfAbsent(method, key -> new LinkedHashSet<>());
        bodies.put(method, tree);
        want(tree.getParameters().size() <= 7, "11: parameters of " + method);
        return super.visitMethod(tree, nothing);
    }

    @Override
    public Void visitVariable(VariableTree tree, Void nothing) {
        Element variable = trees.getElement(getCurrentPath());
        TypeMirror type = variable.asType();
        want(isAllowed(type), "3: " + type + " " + tree.getName());
        if (variable.getModifiers().contains(Modifier.STATIC)) {
            want(variable.getModifiers().contains(Modifier.FINAL), "5: " + tree.getName() + " is final");
            boolean written = tree.getInitializer() instanceof NewArrayTree
                && ((NewArrayTree) tree.getInitializer()).getInitializers() != null;
            want(!(type instanceof ArrayType) || written, "5: " + tree.getName() + " is written out");
            want(type.getKind().isPrimitive() || type instanceof ArrayType || type.toString().equals("java.lang.String"),
                "5: " + tree.getName());
        }
        return super.visitVariable(tree, nothing);
    }

    private static boolean isAllowed(TypeMirror type) {
        if (type instanceof ArrayType) {
            TypeMirror of = ((ArrayType) type).getComponentType();
            TypeMirror within = of instanceof ArrayType ? ((ArrayType) of).getComponentType() : of;
            return isAllowed(within) && (of == within || within.getKind().isPrimitive());
        }
        return type.getKind() == TypeKind.INT || type.getKind() == TypeKind.LONG || type.getKind() == TypeKind.BOOLEAN
            || type.getKind() == TypeKind.CHAR || type.toString().equals("java.lang.String")
            || type.toString().startsWith("DowryBoxes");
    }

    @Override
    public Void visitMethodInvocation(MethodInvocationTree tree, Void nothing) {
        called(trees.getElement(getCurrentPath()));
        return super.visitMethodInvocation(tree, nothing);
    }

    @Override
    public Void visitNewClass(NewClassTree tree, Void nothing) {
        want(tree.getClassBody() == null, "2: no anonymous class");
        called(trees.getElement(getCurrentPath()));
        return super.visitNewClass(tree, nothing);
    }

    private void called(Element callee) {
        TypeElement owner = (TypeElement) callee.getEnclosingElement();
        if (!owner.getQualifiedName().toString().startsWith("DowryBoxes")) {
            String name = owner.getQualifiedName() + "." + callee.getSimpleName();
            want(LIBRARY.contains(name), "4: " + name);
            return;
        }
        Element caller = caller();
        if (caller != null) {
            calls.computeIfAbsent(caller, key -> new LinkedHashSet<>()).add(callee);
        }
    }

    /** The method that the scanner is in; a field's initialiser belongs to all constructors, of which each class has one. */
    private Element caller() {
        for (TreePath path = getCurrentPath(); path != null; path = path.getParentPath()) {
            if (path.getLeaf() instanceof MethodTree) {
                return trees.getElement(path);
            }
            if (path.getLeaf() instanceof ClassTree) {
                for (Element member : trees.getElement(path).getEnclosedElements()) {
                    if (member.getKind() == ElementKind.CONSTRUCTOR) {
                        return member;
                    }
                }
            }
        }
        return null;
    }

    @Override
    public Void visitTypeCast(TypeCastTree tree, Void nothing) {
        want(trees.getTypeMirror(getCurrentPath()).getKind().isPrimitive(), "6: the cast " + tree);
        return super.visitTypeCast(tree, nothing);
    }

    @Override
    public Void visitBinary(BinaryTree tree, Void nothing) {
        want(!trees.getTypeMirror(getCurrentPath()).toString().equals("java.lang.String"), "10: texts joined by " + tree);
        if (tree.getKind() == Tree.Kind.EQUAL_TO || tree.getKind() == Tree.Kind.NOT_EQUAL_TO) {
            TypeMirror left = trees.getTypeMirror(new TreePath(getCurrentPath(), tree.getLeftOperand()));
            want(!left.toString().equals("java.lang.String"), "6: == of texts " + tree);
        }
        if (tree.getKind() == Tree.Kind.DIVIDE || tree.getKind() == Tree.Kind.REMAINDER) {
            divided(tree, tree.getRightOperand());
        }
        return super.visitBinary(tree, nothing);
    }

    /** A divisor is a constant, or the method looks at it. */
    private void divided(Tree tree, ExpressionTree divisor) {
        Element named = trees.getElement(new TreePath(getCurrentPath(), divisor));
        boolean constant = divisor instanceof LiteralTree
            || named instanceof VariableElement && ((VariableElement) named).getConstantValue() != null;
        String method = caller() == null ? "" : bodies.get(caller()).toString();
        boolean looked = method.contains(divisor + " == 0") || method.contains(divisor + " > 0")
            || method.contains(divisor + " > 1");
        want(constant || looked, "7: the divisor of " + tree);
    }

    @Override
    public Void visitForLoop(ForLoopTree tree, Void nothing) {
        want(tree.getCondition() != null && !tree.getUpdate().isEmpty(), "9: the end of " + tree);
        return super.visitForLoop(tree, nothing);
    }

    @Override
    public Void visitWhileLoop(WhileLoopTree tree, Void nothing) {
        want(!tree.getCondition().toString().equals("(true)"), "9: the end of " + tree);
        return super.visitWhileLoop(tree, nothing);
    }

    /** The longest chain in which no method stands twice, from each public one. */
    private void depths() {
        Set<String> recursive = new TreeSet<>();
        for (Element method : calls.keySet()) {
            if (reaches(method, method, new LinkedHashSet<>())) {
                recursive.add(method.getSimpleName().toString());
                boolean carries = ((ExecutableElement) method).getParameters().stream()
                    .anyMatch(parameter -> parameter.getSimpleName().contentEquals("depth"));
                want(carries && method.getModifiers().contains(Modifier.PRIVATE), "8: " + method + " calls itself");
            }
        }
        List<Element> longest = new ArrayList<>();
        for (Element method : calls.keySet()) {
            List<Element> chain = chain(method, new ArrayList<>());
            longest = chain.size() > longest.size() ? chain : longest;
        }
        Collections.reverse(longest);
        want(longest.size() <= DEEPEST, "11: calls go " + longest.size() + " deep: " + longest);
        want(recursive.size() <= 4, "8: " + recursive);
    }

    private boolean reaches(Element from, Element to, Set<Element> seen) {
        for (Element callee : calls.getOrDefault(from, Set.of())) {
            if (callee.equals(to) || seen.add(callee) && reaches(callee, to, seen)) {
                return true;
            }
        }
        return false;
    }

    private List<Element> chain(Element from, List<Element> above) {
        List<Element> best = new ArrayList<>();
        above.add(from);
        for (Element callee : calls.getOrDefault(from, Set.of())) {
            if (!above.contains(callee)) {
                List<Element> below = chain(callee, above);
                best = below.size() > best.size() ? below : best;
            }
        }
        above.remove(above.size() - 1);
        best = new ArrayList<>(best);
        best.add(from);
        return best;
    }
}
