import com.sun.source.tree.AssertTree;
import com.sun.source.tree.BinaryTree;
import com.sun.source.tree.BlockTree;
import com.sun.source.tree.ClassTree;
import com.sun.source.tree.CompilationUnitTree;
import com.sun.source.tree.CompoundAssignmentTree;
import com.sun.source.tree.ConditionalExpressionTree;
import com.sun.source.tree.DoWhileLoopTree;
import com.sun.source.tree.EnhancedForLoopTree;
import com.sun.source.tree.ExpressionTree;
import com.sun.source.tree.ForLoopTree;
import com.sun.source.tree.IfTree;
import com.sun.source.tree.ImportTree;
import com.sun.source.tree.LambdaExpressionTree;
import com.sun.source.tree.LiteralTree;
import com.sun.source.tree.MemberReferenceTree;
import com.sun.source.tree.MethodInvocationTree;
import com.sun.source.tree.MethodTree;
import com.sun.source.tree.NewArrayTree;
import com.sun.source.tree.NewClassTree;
import com.sun.source.tree.ParenthesizedTree;
import com.sun.source.tree.SwitchTree;
import com.sun.source.tree.SynchronizedTree;
import com.sun.source.tree.ThrowTree;
import com.sun.source.tree.Tree;
import com.sun.source.tree.TryTree;
import com.sun.source.tree.TypeCastTree;
import com.sun.source.tree.VariableTree;
import com.sun.source.tree.WhileLoopTree;
import com.sun.source.util.JavacTask;
import com.sun.source.util.TreePath;
import com.sun.source.util.TreePathScanner;
import com.sun.source.util.Trees;
import java.io.IOException;
import java.net.URI;
import java.util.ArrayList;
import java.util.Arrays;
import java.util.HashMap;
import java.util.LinkedHashMap;
import java.util.LinkedHashSet;
import java.util.List;
import java.util.Map;
import java.util.Set;
import javax.lang.model.element.Element;
import javax.lang.model.element.ElementKind;
import javax.lang.model.element.ExecutableElement;
import javax.lang.model.element.Modifier;
import javax.lang.model.element.TypeElement;
import javax.lang.model.type.ArrayType;
import javax.lang.model.type.DeclaredType;
import javax.lang.model.type.TypeKind;
import javax.lang.model.type.TypeMirror;
import javax.tools.DiagnosticCollector;
import javax.tools.JavaFileObject;
import javax.tools.SimpleJavaFileObject;
import javax.tools.ToolProvider;

/**
 * Where a source breaks LANGUAGE.md, as far as its tree shows it. What needs a proof (no index out of its row) is
 * tried by calls instead. Where a rule leaves a choice that the class does not use, the stricter side is taken.
 */
final class Rules extends TreePathScanner<Void, Void> {
    private static final int MOST_PARAMETERS = 7, MOST_LINES = 60, MOST_CLASSES = 12, MOST_FIELDS = 20, MOST_DEEP = 8;
    private static final Map<String, List<String>> LIBRARY = Map.of(
        "java.lang.String", List.of("length", "charAt", "isEmpty", "equals", "indexOf", "substring", "toCharArray"),
        "java.lang.StringBuilder", List.of("append", "charAt", "setCharAt", "setLength", "deleteCharAt", "reverse",
            "length", "toString"),
        "java.lang.Math", List.of("max", "min", "abs", "floorDiv", "floorMod"),
        "java.lang.Integer", List.of("compare", "max", "min", "bitCount"),
        "java.lang.Long", List.of("compare", "max", "min", "bitCount"),
        "java.lang.System", List.of("arraycopy"),
        "java.util.Arrays", List.of("copyOf", "copyOfRange", "fill"));

    private final List<String> offences = new ArrayList<>();
    private final Map<Element, Set<Element>> calls = new LinkedHashMap<>();
    private final Set<Element> shown = new LinkedHashSet<>();
    private final Map<Element, MethodTree> methods = new LinkedHashMap<>();
    private Trees trees;
    private CompilationUnitTree unit;
    private int classes;

    private Rules() {
    }

    /** Each offence begins with the number of its rule; 0: the source is no Java. */
    static List<String> offences(String source) throws IOException {
        return new Rules().look(source);
    }

    private List<String> look(String source) throws IOException {
        DiagnosticCollector<JavaFileObject> told = new DiagnosticCollector<>();
        JavacTask task = (JavacTask) ToolProvider.getSystemJavaCompiler().getTask(null, null, told,
            List.of("-proc:none"), null, List.of(new Text(source)));
        trees = Trees.instance(task);
        unit = task.parse().iterator().next();
        task.analyze();
        told.getDiagnostics().stream().filter(d -> d.getKind() == javax.tools.Diagnostic.Kind.ERROR)
            .forEach(d -> offences.add("0 " + d.getMessage(null)));
        if (offences.isEmpty()) {
            scan(unit, null);
            names();
            recursion();
        }
        return offences;
    }

    static final class Text extends SimpleJavaFileObject {
        private final String source;

        Text(String source) {
            super(URI.create("string:///PlanesBack.java"), Kind.SOURCE);
            this.source = source;
        }

        @Override
        public CharSequence getCharContent(boolean ignored) {
            return source;
        }
    }

    private void offence(int rule, String what, Tree tree) {
        long line = unit.getLineMap().getLineNumber(trees.getSourcePositions().getStartPosition(unit, tree));
        offences.add(rule + " " + what + " in line " + line);
    }

    private Element elementOf(Tree tree) {
        return trees.getElement(new TreePath(getCurrentPath(), tree));
    }

    private TypeMirror typeOf(Tree tree) {
        return trees.getTypeMirror(new TreePath(getCurrentPath(), tree));
    }

    private static boolean isOwn(Element element) {
        Element outer = element;
        while (outer.getEnclosingElement() != null && outer.getEnclosingElement().getKind() != ElementKind.PACKAGE) {
            outer = outer.getEnclosingElement();
        }
        return outer.getSimpleName().contentEquals("PlanesBack");
    }

    @Override
    public Void visitCompilationUnit(CompilationUnitTree tree, Void none) {
        if (tree.getPackageName() != null || tree.getTypeDecls().size() != 1) {
            offence(1, "a package line, or more than one class", tree);
        }
        super.visitCompilationUnit(tree, none);
        if (classes > MOST_CLASSES) {
            offence(11, "too many classes", tree);
        }
        return null;
    }

    @Override
    public Void visitImport(ImportTree tree, Void none) {
        if (!List.of("java.util.ArrayList", "java.util.List", "java.util.Arrays", "java.util.Iterator")
                .contains(tree.getQualifiedIdentifier().toString())) {
            offence(4, "import " + tree.getQualifiedIdentifier(), tree);
        }
        return super.visitImport(tree, none);
    }

    @Override
    public Void visitClass(ClassTree tree, Void none) {
        classes++;
        Set<Modifier> modifiers = tree.getModifiers().getFlags();
        Tree parent = getCurrentPath().getParentPath().getLeaf();
        if (parent instanceof CompilationUnitTree) {
            if (!modifiers.containsAll(Set.of(Modifier.PUBLIC, Modifier.FINAL))) {
                offence(1, "the class is not public and final", tree);
            }
        } else if (!(parent instanceof ClassTree)) {
            offence(2, "a local or anonymous class", tree);
        } else if (!trees.getElement(getCurrentPath()).getModifiers().contains(Modifier.STATIC)) {
            offence(2, "an inner class", tree);
        } else if (modifiers.contains(Modifier.PUBLIC) || modifiers.contains(Modifier.PROTECTED)) {
            offence(1, "a class inside that is shown", tree);
        }
        long fields = tree.getMembers().stream().filter(m -> m instanceof VariableTree v
            && !v.getModifiers().getFlags().contains(Modifier.STATIC)).count();
        if (fields > MOST_FIELDS) {
            offence(11, "too many fields", tree);
        }
        for (Tree member : tree.getMembers()) {
            if (member instanceof BlockTree block && block.isStatic()) {
                offence(5, "a static block", block);
            }
        }
        return super.visitClass(tree, none);
    }

    private boolean isInOuterClass(TreePath path) {
        return path.getParentPath().getParentPath().getLeaf() instanceof CompilationUnitTree;
    }

    @Override
    public Void visitMethod(MethodTree tree, Void none) {
        Element method = trees.getElement(getCurrentPath());
        boolean isFace = isInOuterClass(getCurrentPath()) && method.getModifiers().contains(Modifier.PUBLIC);
        if (isFace) {
            shown.add(method);
        } else if (isInOuterClass(getCurrentPath()) && !method.getModifiers().contains(Modifier.PRIVATE)
                || method.getModifiers().contains(Modifier.PUBLIC) && !isBidden(method)) {
            offence(1, method + " is shown", tree);
        }
        methods.put(method, tree);
        calls.put(method, new LinkedHashSet<>());
        if (tree.getParameters().size() > MOST_PARAMETERS) {
            offence(11, method + " takes too many", tree);
        }
        if (linesOf(tree) > MOST_LINES) {
            offence(11, method + " is too long", tree);
        }
        if (!tree.getThrows().isEmpty() || method.getModifiers().contains(Modifier.SYNCHRONIZED)) {
            offence(6, method + " throws or is synchronized", tree);
        }
        if (List.of("equals", "hashCode", "toString", "finalize").contains(tree.getName().toString())) {
            offence(6, method + " is the machine's own", tree);
        }
        return super.visitMethod(tree, none);
    }

    /** An interface's methods must be public where they are implemented. */
    private static boolean isBidden(Element method) {
        return method.getEnclosingElement() instanceof TypeElement type
            && (type.getKind() == ElementKind.INTERFACE || !type.getInterfaces().isEmpty());
    }

    private long linesOf(Tree tree) {
        long first = trees.getSourcePositions().getStartPosition(unit, tree);
        long last = trees.getSourcePositions().getEndPosition(unit, tree);
        return last < 0 ? 0 : unit.getLineMap().getLineNumber(last) - unit.getLineMap().getLineNumber(first) + 1;
    }

    @Override
    public Void visitVariable(VariableTree tree, Void none) {
        Element variable = trees.getElement(getCurrentPath());
        if (!isAllowed(variable.asType())) {
            offence(3, variable + " is a " + variable.asType(), tree);
        }
        if (variable.getKind() == ElementKind.FIELD) {
            if (isInOuterClass(getCurrentPath()) && !variable.getModifiers().contains(Modifier.PRIVATE)
                    && !variable.getModifiers().containsAll(Set.of(Modifier.PUBLIC, Modifier.STATIC, Modifier.FINAL))) {
                offence(1, variable + " is shown", tree);
            }
            if (variable.getModifiers().contains(Modifier.STATIC) && !isConstant(variable, tree.getInitializer())) {
                offence(5, variable + " is static, and no constant", tree);
            }
        }
        return super.visitVariable(tree, none);
    }

    private static boolean isConstant(Element field, ExpressionTree value) {
        if (!field.getModifiers().contains(Modifier.FINAL)) {
            return false;
        }
        if (field.asType() instanceof ArrayType array) {
            return List.of("int", "long", "char", "byte").contains(array.getComponentType().toString())
                && value instanceof NewArrayTree made && made.getInitializers() != null;
        }
        return List.of("int", "long", "boolean", "char", "java.lang.String").contains(field.asType().toString());
    }

    private boolean isAllowed(TypeMirror type) {
        if (type instanceof ArrayType array) {
            TypeMirror inside = array.getComponentType();
            return inside.getKind().isPrimitive() || isOwnType(inside)
                || inside instanceof ArrayType second && second.getComponentType().getKind().isPrimitive();
        }
        return type.getKind().isPrimitive() || type.getKind() == TypeKind.TYPEVAR || isOwnType(type)
            || List.of("java.lang.String", "java.lang.StringBuilder").contains(type.toString()) || isList(type);
    }

    private static boolean isOwnType(TypeMirror type) {
        return type instanceof DeclaredType declared && isOwn(declared.asElement());
    }

    private static boolean isList(TypeMirror type) {
        return type instanceof DeclaredType declared && declared.getTypeArguments().size() == 1
            && List.of("java.util.ArrayList", "java.util.List").contains(declared.asElement().toString())
            && (isOwnType(declared.getTypeArguments().get(0))
                || declared.getTypeArguments().get(0).toString().equals("java.lang.Integer"));
    }

    @Override
    public Void visitMethodInvocation(MethodInvocationTree tree, Void none) {
        Element called = elementOf(tree.getMethodSelect());
        Element caller = callerNow();
        if (called != null && called.getKind() == ElementKind.METHOD) {
            if (isOwn(called)) {
                if (caller != null) {
                    calls.get(caller).add(called);
                }
            } else if (!isInLibrary((ExecutableElement) called)) {
                offence(4, called.getEnclosingElement() + "." + called, tree);
            }
        }
        return super.visitMethodInvocation(tree, none);
    }

    private Element callerNow() {
        for (TreePath path = getCurrentPath(); path != null; path = path.getParentPath()) {
            if (path.getLeaf() instanceof MethodTree) {
                return trees.getElement(path);
            }
        }
        return null;
    }

    private static boolean isInLibrary(ExecutableElement called) {
        String home = called.getEnclosingElement().toString(), name = called.getSimpleName().toString();
        if (List.of("java.util.ArrayList", "java.util.List", "java.util.Collection").contains(home)) {
            return List.of("add", "get", "set", "remove", "size", "isEmpty", "clear").contains(name);
        }
        return LIBRARY.getOrDefault(home, List.of()).contains(name);
    }

    @Override
    public Void visitNewClass(NewClassTree tree, Void none) {
        TypeMirror type = typeOf(tree);
        if (tree.getClassBody() == null && !isAllowed(type)) {
            offence(4, "new " + type, tree);
        }
        makes(tree);
        return super.visitNewClass(tree, none);
    }

    @Override
    public Void visitNewArray(NewArrayTree tree, Void none) {
        makes(tree);
        return super.visitNewArray(tree, none);
    }

    /** Rule 12 lets a method make objects; here none does, so that a run's room is what its objects take at first. */
    private void makes(Tree tree) {
        Element caller = callerNow();
        if (caller != null && caller.getKind() == ElementKind.METHOD) {
            offence(12, caller + " makes an object", tree);
        }
    }

    @Override
    public Void visitThrow(ThrowTree tree, Void none) {
        offence(6, "throw", tree);
        return super.visitThrow(tree, none);
    }

    @Override
    public Void visitTry(TryTree tree, Void none) {
        offence(6, "try", tree);
        return super.visitTry(tree, none);
    }

    @Override
    public Void visitSynchronized(SynchronizedTree tree, Void none) {
        offence(6, "synchronized", tree);
        return super.visitSynchronized(tree, none);
    }

    @Override
    public Void visitAssert(AssertTree tree, Void none) {
        offence(6, "assert", tree);
        return super.visitAssert(tree, none);
    }

    @Override
    public Void visitLambdaExpression(LambdaExpressionTree tree, Void none) {
        offence(2, "a lambda", tree);
        return null;
    }

    @Override
    public Void visitMemberReference(MemberReferenceTree tree, Void none) {
        offence(2, "a method reference", tree);
        return null;
    }

    @Override
    public Void visitTypeCast(TypeCastTree tree, Void none) {
        if (!typeOf(tree.getType()).getKind().isPrimitive()) {
            offence(6, "a cast that may throw", tree);
        }
        return super.visitTypeCast(tree, none);
    }

    @Override
    public Void visitLiteral(LiteralTree tree, Void none) {
        if (tree.getValue() instanceof String text && !text.chars().allMatch(sign -> sign >= 1 && sign <= 127)) {
            offence(4, "a sign that must be put by its number", tree);
        }
        return super.visitLiteral(tree, none);
    }

    @Override
    public Void visitSwitch(SwitchTree tree, Void none) {
        TypeMirror type = typeOf(tree.getExpression());
        if (!type.getKind().isPrimitive() && !isOwnType(type)) {
            offence(10, "a switch on a " + type, tree);
        }
        return super.visitSwitch(tree, none);
    }

    @Override
    public Void visitBinary(BinaryTree tree, Void none) {
        boolean texts = isText(tree.getLeftOperand()) || isText(tree.getRightOperand());
        switch (tree.getKind()) {
            case PLUS:
                if (texts) {
                    offence(10, "texts joined by +", tree);
                }
                break;
            case EQUAL_TO:
            case NOT_EQUAL_TO:
                if (texts) {
                    offence(6, "two texts compared as objects", tree);
                }
                break;
            case DIVIDE:
            case REMAINDER:
                divisor(tree.getRightOperand());
                break;
            default:
        }
        return super.visitBinary(tree, none);
    }

    private boolean isText(Tree tree) {
        return List.of("java.lang.String", "java.lang.Integer").contains(typeOf(tree).toString());
    }

    @Override
    public Void visitCompoundAssignment(CompoundAssignmentTree tree, Void none) {
        if (tree.getKind() == Tree.Kind.DIVIDE_ASSIGNMENT || tree.getKind() == Tree.Kind.REMAINDER_ASSIGNMENT) {
            divisor(tree.getExpression());
        }
        if (tree.getKind() == Tree.Kind.PLUS_ASSIGNMENT && isText(tree.getVariable())) {
            offence(10, "texts joined by +=", tree);
        }
        return super.visitCompoundAssignment(tree, none);
    }

    /** A divisor is a number that is not 0, or a name that a condition around it looks at. */
    private void divisor(ExpressionTree tree) {
        boolean isSafe = tree instanceof LiteralTree number && !number.getValue().toString().matches("0L?");
        for (TreePath path = getCurrentPath(); path != null && !isSafe; path = path.getParentPath()) {
            Tree around = path.getLeaf();
            ExpressionTree condition = around instanceof IfTree i ? i.getCondition()
                : around instanceof ConditionalExpressionTree c ? c.getCondition() : null;
            isSafe = condition != null
                && Arrays.asList(condition.toString().split("\\W+")).contains(tree.toString());
        }
        if (!isSafe) {
            offence(7, "a divisor that is not looked at", tree);
        }
    }

    @Override
    public Void visitForLoop(ForLoopTree tree, Void none) {
        ends(tree, tree.getCondition());
        return super.visitForLoop(tree, none);
    }

    @Override
    public Void visitWhileLoop(WhileLoopTree tree, Void none) {
        ends(tree, tree.getCondition());
        return super.visitWhileLoop(tree, none);
    }

    @Override
    public Void visitDoWhileLoop(DoWhileLoopTree tree, Void none) {
        ends(tree, tree.getCondition());
        return super.visitDoWhileLoop(tree, none);
    }

    @Override
    public Void visitEnhancedForLoop(EnhancedForLoopTree tree, Void none) {
        if (!(typeOf(tree.getExpression()) instanceof ArrayType)) {
            offence(12, "a loop that makes an iterator", tree);
        }
        return super.visitEnhancedForLoop(tree, none);
    }

    private void ends(Tree loop, ExpressionTree condition) {
        if (condition == null || !hasBound(condition)) {
            offence(9, "a loop without a bound", loop);
        }
    }

    private static boolean hasBound(ExpressionTree condition) {
        if (condition instanceof ParenthesizedTree inside) {
            return hasBound(inside.getExpression());
        }
        switch (condition.getKind()) {
            case LESS_THAN:
            case LESS_THAN_EQUAL:
            case GREATER_THAN:
            case GREATER_THAN_EQUAL:
                return true;
            case CONDITIONAL_AND:
                BinaryTree both = (BinaryTree) condition;
                return hasBound(both.getLeftOperand()) || hasBound(both.getRightOperand());
            default:
                return false;
        }
    }

    private void names() {
        for (Element method : methods.keySet()) {
            for (Element face : shown) {
                if (!shown.contains(method) && method.getKind() == ElementKind.METHOD
                        && method.getSimpleName().equals(face.getSimpleName())) {
                    offence(1, method + " bears a public name", methods.get(method));
                }
            }
        }
    }

    /** Which methods call themselves, over others too; and how deep the calls go that do not. */
    private void recursion() {
        Map<Element, Set<Element>> reached = new HashMap<>();
        for (Element method : calls.keySet()) {
            reached.put(method, reachedFrom(method));
        }
        for (Element method : calls.keySet()) {
            if (reached.get(method).contains(method) && !carriesDepth(methods.get(method))) {
                offence(8, method + " calls itself without a depth", methods.get(method));
            }
        }
        Map<Element, Integer> deep = new HashMap<>();
        for (Element method : shown) {
            if (depthOf(method, reached, deep) > MOST_DEEP) {
                offence(11, method + " goes too deep", methods.get(method));
            }
        }
    }

    private Set<Element> reachedFrom(Element method) {
        Set<Element> all = new LinkedHashSet<>();
        List<Element> open = new ArrayList<>(calls.get(method));
        while (!open.isEmpty()) {
            Element next = open.remove(open.size() - 1);
            if (all.add(next)) {
                open.addAll(calls.getOrDefault(next, Set.of()));
            }
        }
        return all;
    }

    private static boolean carriesDepth(MethodTree tree) {
        return tree.getModifiers().getFlags().contains(Modifier.PRIVATE)
            && tree.getParameters().stream().anyMatch(p -> p.getName().contentEquals("depth"));
    }

    /** Methods that call one another count as one. */
    private int depthOf(Element method, Map<Element, Set<Element>> reached, Map<Element, Integer> deep) {
        if (deep.containsKey(method)) {
            return deep.get(method);
        }
        Set<Element> around = new LinkedHashSet<>(Set.of(method));
        for (Element other : reached.get(method)) {
            if (reached.getOrDefault(other, Set.of()).contains(method)) {
                around.add(other);
            }
        }
        int most = 0;
        for (Element one : around) {
            for (Element called : calls.get(one)) {
                if (calls.containsKey(called) && !around.contains(called)) {
                    most = Math.max(most, depthOf(called, reached, deep));
                }
            }
        }
        deep.put(method, most + 1);
        return most + 1;
    }
}
