import com.sun.source.tree.AssertTree;
import com.sun.source.tree.BinaryTree;
import com.sun.source.tree.BlockTree;
import com.sun.source.tree.ClassTree;
import com.sun.source.tree.CompilationUnitTree;
import com.sun.source.tree.LambdaExpressionTree;
import com.sun.source.tree.LineMap;
import com.sun.source.tree.MemberReferenceTree;
import com.sun.source.tree.MethodInvocationTree;
import com.sun.source.tree.MethodTree;
import com.sun.source.tree.NewClassTree;
import com.sun.source.tree.SynchronizedTree;
import com.sun.source.tree.ThrowTree;
import com.sun.source.tree.Tree;
import com.sun.source.tree.TryTree;
import com.sun.source.tree.TypeCastTree;
import com.sun.source.tree.VariableTree;
import com.sun.source.util.JavacTask;
import com.sun.source.util.TreePath;
import com.sun.source.util.TreePathScanner;
import com.sun.source.util.Trees;
import java.nio.file.Path;
import java.util.ArrayList;
import java.util.LinkedHashMap;
import java.util.LinkedHashSet;
import java.util.List;
import java.util.Map;
import java.util.Set;
import javax.lang.model.element.Element;
import javax.lang.model.element.ElementKind;
import javax.lang.model.element.ExecutableElement;
import javax.lang.model.element.Modifier;
import javax.lang.model.element.NestingKind;
import javax.lang.model.element.TypeElement;
import javax.lang.model.element.VariableElement;
import javax.lang.model.type.ArrayType;
import javax.lang.model.type.TypeKind;
import javax.lang.model.type.TypeMirror;
import javax.tools.JavaCompiler;
import javax.tools.StandardJavaFileManager;
import javax.tools.ToolProvider;

/** Rules of LANGUAGE.md by the compiler's own reading of the class: names are resolved, and calls followed. */
public final class RulesTest extends TreePathScanner<Void, Void> {
    private static final int DEEPEST = 8, MOST_CLASSES = 12, MOST_FIELDS = 20, MOST_LINES = 60, MOST_PARAMETERS = 7;
    /** Those calls of rule 4's library that the class needs; another one has to be looked up there first. */
    private static final Set<String> LIBRARY = Set.of(
        "java.lang.String.length", "java.lang.String.charAt", "java.lang.Integer.bitCount", "java.lang.Math.min",
        "java.lang.System.arraycopy", "java.util.Arrays.fill");
    /** Rule 12: who makes an object once the office stands. */
    private static final Set<String> MAKERS = Set.of("newPerson");

    private final Due due = new Due("RulesTest");
    private final Trees trees;
    private final JavacTask task;
    private final CompilationUnitTree unit;
    private final Map<ExecutableElement, Set<ExecutableElement>> calls = new LinkedHashMap<>();
    private final Map<ExecutableElement, Set<ExecutableElement>> supers = new LinkedHashMap<>();
    private final List<TypeElement> classes = new ArrayList<>();

    private RulesTest(JavacTask task) throws Exception {
        this.task = task;
        trees = Trees.instance(task);
        unit = task.parse().iterator().next();
        task.analyze();
    }

    public static void main(String[] args) throws Exception {
        JavaCompiler compiler = ToolProvider.getSystemJavaCompiler();
        try (StandardJavaFileManager files = compiler.getStandardFileManager(null, null, null)) {
            JavacTask task = (JavacTask) compiler.getTask(null, files, null, List.of("-proc:none"), null,
                files.getJavaFileObjects(Path.of("src/main/java/EvePost.java")));
            RulesTest test = new RulesTest(task);
            test.scan(test.unit, null);
            test.classesFew();
            test.callsFlat();
            test.due.end();
        }
    }

    private void holds(String rule, boolean kept) {
        due.is(rule, kept ? 1 : 0, 1);
    }

    private String place(Tree tree) {
        LineMap lines = unit.getLineMap();
        return " (line " + lines.getLineNumber(trees.getSourcePositions().getStartPosition(unit, tree)) + ")";
    }

    private Element here() {
        return trees.getElement(getCurrentPath());
    }

    private ExecutableElement methodAround() {
        for (TreePath path = getCurrentPath(); path != null; path = path.getParentPath()) {
            if (path.getLeaf() instanceof MethodTree) {
                return (ExecutableElement) trees.getElement(path);
            }
        }
        return null;
    }

    private static boolean isOwn(Element element) {
        for (Element e = element; e != null; e = e.getEnclosingElement()) {
            if (e instanceof TypeElement type && type.getQualifiedName().contentEquals("EvePost")) {
                return true;
            }
        }
        return false;
    }

    // ---- rules 1 and 2: classes, their members

    @Override
    public Void visitClass(ClassTree tree, Void none) {
        TypeElement type = (TypeElement) here();
        classes.add(type);
        boolean outer = type.getNestingKind() == NestingKind.TOP_LEVEL;
        holds("rule 2, a class inside is static" + place(tree), outer
            || type.getNestingKind() == NestingKind.MEMBER && type.getModifiers().contains(Modifier.STATIC));
        int fields = 0;
        for (Element member : type.getEnclosedElements()) {
            fields += member.getKind() == ElementKind.FIELD && !member.getModifiers().contains(Modifier.STATIC) ? 1 : 0;
        }
        holds("rule 11, fields of " + type, fields <= MOST_FIELDS);
        for (Tree member : tree.getMembers()) {
            holds("rule 5, no initialiser block" + place(member), !(member instanceof BlockTree));
        }
        return super.visitClass(tree, none);
    }

    private void classesFew() {
        holds("rule 11, classes", classes.size() <= MOST_CLASSES);
        Set<String> face = new LinkedHashSet<>();
        for (ExecutableElement method : calls.keySet()) {
            if (method.getModifiers().contains(Modifier.PUBLIC)) {
                face.add(method.getSimpleName().toString());
            }
        }
        face.remove("<init>");
        due.is("calls of the face", face.size(), 30);
        for (ExecutableElement method : calls.keySet()) {
            holds("rule 1, no other method is called " + method, method.getModifiers().contains(Modifier.PUBLIC)
                || !face.contains(method.getSimpleName().toString()));
        }
    }

    // ---- rules 3 and 5: types, static fields

    private boolean isAllowed(TypeMirror type) {
        if (type.getKind().isPrimitive()) {
            return true;
        }
        if (type instanceof ArrayType array) {
            TypeMirror inner = array.getComponentType();
            boolean flat = !(inner instanceof ArrayType);
            return flat ? isAllowed(inner) : ((ArrayType) inner).getComponentType().getKind().isPrimitive();
        }
        return isOwn(task.getTypes().asElement(type)) || type.toString().equals("java.lang.String");
    }

    private static boolean isConstant(TypeMirror type) {
        return type.getKind() == TypeKind.INT || type.getKind() == TypeKind.LONG || type.getKind() == TypeKind.BOOLEAN
            || type.getKind() == TypeKind.CHAR || type.toString().equals("java.lang.String");
    }

    @Override
    public Void visitVariable(VariableTree tree, Void none) {
        VariableElement variable = (VariableElement) here();
        holds("rule 3, the type of " + tree.getName() + place(tree), isAllowed(variable.asType()));
        if (variable.getModifiers().contains(Modifier.STATIC)) {
            holds("rule 5, static is final" + place(tree), variable.getModifiers().contains(Modifier.FINAL));
            holds("rule 5, static is a constant" + place(tree),
                isConstant(variable.asType()) && variable.getConstantValue() != null);
        }
        return super.visitVariable(tree, none);
    }

    // ---- rule 6: what may not be written

    @Override
    public Void visitThrow(ThrowTree tree, Void none) {
        holds("rule 6, throw" + place(tree), false);
        return null;
    }

    @Override
    public Void visitTry(TryTree tree, Void none) {
        holds("rule 6, try" + place(tree), false);
        return null;
    }

    @Override
    public Void visitSynchronized(SynchronizedTree tree, Void none) {
        holds("rule 6, synchronized" + place(tree), false);
        return null;
    }

    @Override
    public Void visitAssert(AssertTree tree, Void none) {
        holds("rule 6, assert" + place(tree), false);
        return null;
    }

    @Override
    public Void visitLambdaExpression(LambdaExpressionTree tree, Void none) {
        holds("rule 2, lambda" + place(tree), false);
        return null;
    }

    @Override
    public Void visitMemberReference(MemberReferenceTree tree, Void none) {
        holds("rule 2, method reference" + place(tree), false);
        return null;
    }

    /** The class needs casts between numbers alone. */
    @Override
    public Void visitTypeCast(TypeCastTree tree, Void none) {
        TypeMirror to = trees.getTypeMirror(new TreePath(getCurrentPath(), tree.getType()));
        holds("rule 6, a cast that is safe" + place(tree), to.getKind().isPrimitive());
        return super.visitTypeCast(tree, none);
    }

    private TypeMirror typeOf(Tree tree) {
        return trees.getTypeMirror(new TreePath(getCurrentPath(), tree));
    }

    @Override
    public Void visitBinary(BinaryTree tree, Void none) {
        boolean texts = typeOf(tree.getLeftOperand()).toString().equals("java.lang.String")
            || typeOf(tree.getRightOperand()).toString().equals("java.lang.String");
        holds("rules 6 and 10, no sign between texts" + place(tree), !texts);
        if (tree.getKind() == Tree.Kind.DIVIDE || tree.getKind() == Tree.Kind.REMAINDER) {
            String by = tree.getRightOperand().toString();
            // Those divisors that were looked at: constants above 0, and two that are tested beside it.
            holds("rule 7, a divisor" + place(tree), Set.of("TENTHS", "MODULUS", "low", "common").contains(by));
        }
        return super.visitBinary(tree, none);
    }

    // ---- rules 4, 11, 12: calls, methods, objects

    @Override
    public Void visitMethod(MethodTree tree, Void none) {
        ExecutableElement method = (ExecutableElement) here();
        calls.putIfAbsent(method, new LinkedHashSet<>());
        holds("rule 11, parameters of " + method, method.getParameters().size() <= MOST_PARAMETERS);
        LineMap lines = unit.getLineMap();
        long first = trees.getSourcePositions().getStartPosition(unit, tree);
        long last = trees.getSourcePositions().getEndPosition(unit, tree);
        if (first >= 0 && last >= first) {
            holds("rule 11, lines of " + method, lines.getLineNumber(last) - lines.getLineNumber(first) <= MOST_LINES);
        }
        return super.visitMethod(tree, none);
    }

    /** Of a call by 'super' just the body named can begin, of another one those that override it as well. */
    private void follow(ExecutableElement called, MethodInvocationTree tree) {
        ExecutableElement caller = methodAround();
        if (!isOwn(called)) {
            String name = called.getEnclosingElement() + "." + called.getSimpleName();
            holds("rule 4, " + name + place(tree), LIBRARY.contains(name) || name.equals("java.lang.Object.<init>"));
        } else if (caller != null) {
            boolean bySuper = tree.getMethodSelect().toString().startsWith("super");
            (bySuper ? supers : calls).computeIfAbsent(caller, c -> new LinkedHashSet<>()).add(called);
        }
    }

    @Override
    public Void visitMethodInvocation(MethodInvocationTree tree, Void none) {
        ExecutableElement called = (ExecutableElement) here();
        follow(called, tree);
        String name = called.getSimpleName().toString();
        if (name.equals("arraycopy") || name.equals("fill")) {
            TypeMirror of = typeOf(tree.getArguments().get(0));
            holds("rule 4, an array of numbers" + place(tree),
                of instanceof ArrayType array && array.getComponentType().getKind().isPrimitive());
        }
        return super.visitMethodInvocation(tree, none);
    }

    @Override
    public Void visitNewClass(NewClassTree tree, Void none) {
        holds("rule 2, no class of its own there" + place(tree), tree.getClassBody() == null);
        ExecutableElement maker = methodAround();
        holds("rule 12, an object is made" + place(tree), maker == null || maker.getKind() == ElementKind.CONSTRUCTOR
            || MAKERS.contains(maker.getSimpleName().toString()));
        return super.visitNewClass(tree, none);
    }

    // ---- rules 8 and 11: calls within calls

    private Set<ExecutableElement> bodies(ExecutableElement caller) {
        Set<ExecutableElement> all = new LinkedHashSet<>(supers.getOrDefault(caller, Set.of()));
        for (ExecutableElement called : calls.getOrDefault(caller, Set.of())) {
            all.add(called);
            for (ExecutableElement other : calls.keySet()) {
                if (task.getElements().overrides(other, called, (TypeElement) other.getEnclosingElement())) {
                    all.add(other);
                }
            }
        }
        return all;
    }

    private int depth(ExecutableElement method, Set<ExecutableElement> open) {
        if (!open.add(method)) {
            holds("rule 8, " + method + " comes back to itself", false);
            return 0;
        }
        int deepest = 0;
        for (ExecutableElement body : bodies(method)) {
            deepest = Math.max(deepest, depth(body, open));
        }
        open.remove(method);
        return deepest + 1;
    }

    private void callsFlat() {
        for (ExecutableElement method : calls.keySet()) {
            if (method.getModifiers().contains(Modifier.PUBLIC)) {
                int depth = depth(method, new LinkedHashSet<>());
                holds("rule 11, " + method + " goes " + depth + " deep", depth <= DEEPEST);
            }
        }
    }
}
