import com.sun.source.tree.AssertTree;
import com.sun.source.tree.AssignmentTree;
import com.sun.source.tree.BinaryTree;
import com.sun.source.tree.BlockTree;
import com.sun.source.tree.CatchTree;
import com.sun.source.tree.ClassTree;
import com.sun.source.tree.CompilationUnitTree;
import com.sun.source.tree.CompoundAssignmentTree;
import com.sun.source.tree.DoWhileLoopTree;
import com.sun.source.tree.ExpressionTree;
import com.sun.source.tree.ForLoopTree;
import com.sun.source.tree.ImportTree;
import com.sun.source.tree.LambdaExpressionTree;
import com.sun.source.tree.LiteralTree;
import com.sun.source.tree.MemberReferenceTree;
import com.sun.source.tree.MemberSelectTree;
import com.sun.source.tree.MethodInvocationTree;
import com.sun.source.tree.MethodTree;
import com.sun.source.tree.NewClassTree;
import com.sun.source.tree.SynchronizedTree;
import com.sun.source.tree.ThrowTree;
import com.sun.source.tree.Tree;
import com.sun.source.tree.TryTree;
import com.sun.source.tree.VariableTree;
import com.sun.source.tree.WhileLoopTree;
import com.sun.source.util.JavacTask;
import com.sun.source.util.TreePath;
import com.sun.source.util.TreePathScanner;
import com.sun.source.util.Trees;
import java.io.IOException;
import java.net.URI;
import java.util.ArrayList;
import java.util.HashMap;
import java.util.LinkedHashMap;
import java.util.LinkedHashSet;
import java.util.List;
import java.util.Map;
import java.util.Set;
import javax.lang.model.element.Element;
import javax.lang.model.element.ElementKind;
import javax.lang.model.element.ExecutableElement;
import javax.lang.model.element.Modifier;
import javax.lang.model.element.VariableElement;
import javax.lang.model.type.ArrayType;
import javax.lang.model.type.DeclaredType;
import javax.lang.model.type.TypeKind;
import javax.lang.model.type.TypeMirror;
import javax.tools.JavaCompiler;
import javax.tools.JavaFileObject;
import javax.tools.SimpleJavaFileObject;
import javax.tools.ToolProvider;

/** What can be seen of LANGUAGE.md in a source without running it; a finding begins with the number of its rule. */
final class Rules extends TreePathScanner<Void, Void> {
    private static final int MOST_CLASSES = 12;
    private static final int MOST_FIELDS = 20;
    private static final int MOST_LINES = 60;
    private static final int MOST_PARAMETERS = 7;
    private static final int MOST_CALLS_DEEP = 8;

    private static final Set<String> IMPORTS = Set.of("java.util.ArrayList", "java.util.List", "java.util.Arrays",
        "java.util.NoSuchElementException", "java.util.Iterator");
    private static final Set<String> EXCEPTIONS = Set.of("IllegalStateException", "IllegalArgumentException",
        "IndexOutOfBoundsException", "ArithmeticException", "UnsupportedOperationException",
        "NoSuchElementException", "RuntimeException");
    private static final Set<String> MACHINE_EXCEPTIONS = Set.of("ArrayIndexOutOfBoundsException",
        "StringIndexOutOfBoundsException", "NullPointerException", "ClassCastException",
        "NegativeArraySizeException", "ArrayStoreException", "Exception", "Throwable", "Error");
    private static final Set<String> KEPT_TYPES = Set.of("String", "StringBuilder", "Integer", "ArrayList", "List",
        "Iterator", "Iterable", "Comparable");
    private static final Map<String, Set<String>> LIBRARY = Map.of(
        "String", Set.of("length", "charAt", "isEmpty", "equals", "indexOf", "substring", "toCharArray"),
        "StringBuilder", Set.of("append", "charAt", "setCharAt", "setLength", "deleteCharAt", "reverse", "length",
            "toString"),
        "ArrayList", Set.of("add", "get", "set", "remove", "size", "isEmpty", "clear"),
        "List", Set.of("add", "get", "set", "remove", "size", "isEmpty", "clear", "of"),
        "Integer", Set.of("compare", "max", "min", "bitCount", "signum", "intValue", "valueOf"),
        "Long", Set.of("compare", "max", "min", "bitCount", "signum"),
        "Math", Set.of("max", "min", "abs", "floorDiv", "floorMod"),
        "System", Set.of("arraycopy"),
        "Arrays", Set.of("copyOf", "copyOfRange", "fill"));

    private final Set<String> findings = new LinkedHashSet<>();
    private final Map<String, Set<String>> calls = new LinkedHashMap<>();
    private final Map<String, Integer> deepest = new HashMap<>();
    private final Set<String> ownClasses = new LinkedHashSet<>();
    private final Set<String> constantArrays = new LinkedHashSet<>();
    private final Trees trees;
    private final CompilationUnitTree unit;

    private Rules(Trees trees, CompilationUnitTree unit) {
        this.trees = trees;
        this.unit = unit;
    }

    /** The findings of a file of which the public class is called Equaltexts. */
    static List<String> brokenBy(String source) {
        JavaCompiler compiler = ToolProvider.getSystemJavaCompiler();
        JavaFileObject file = new SimpleJavaFileObject(URI.create("string:///Equaltexts.java"),
                JavaFileObject.Kind.SOURCE) {
            @Override
            public CharSequence getCharContent(boolean ignored) {
                return source;
            }
        };
        StringBuilder complaints = new StringBuilder();
        JavacTask task = (JavacTask) compiler.getTask(null, null,
            said -> complaints.append(said.getKind() == javax.tools.Diagnostic.Kind.ERROR ? said + "\n" : ""),
            List.of("-proc:none"), null, List.of(file));
        try {
            CompilationUnitTree unit = task.parse().iterator().next();
            task.analyze();
            if (complaints.length() > 0) {
                return List.of("0: " + complaints);
            }
            Rules rules = new Rules(Trees.instance(task), unit);
            rules.scan(unit, null);
            rules.countsOfTheFile();
            return new ArrayList<>(rules.findings);
        } catch (IOException e) {
            throw new IllegalStateException(e);
        }
    }

    private void found(int rule, Tree where, String what) {
        long line = where == null ? 0 : unit.getLineMap().getLineNumber(startOf(where));
        findings.add(rule + ": line " + line + ", " + what);
    }

    private long startOf(Tree tree) {
        return trees.getSourcePositions().getStartPosition(unit, tree);
    }

    private Element elementOf(Tree tree) {
        return trees.getElement(TreePath.getPath(unit, tree));
    }

    private TypeMirror typeOf(Tree tree) {
        return trees.getTypeMirror(TreePath.getPath(unit, tree));
    }

    private static String simple(Object name) {
        String whole = name.toString().replaceAll("<.*", "");
        return whole.substring(whole.lastIndexOf('.') + 1);
    }

    private static boolean isOwn(Element element) {
        Element outer = element;
        while (outer != null && outer.getEnclosingElement() != null
                && outer.getEnclosingElement().getKind() != ElementKind.PACKAGE) {
            outer = outer.getEnclosingElement();
        }
        return outer != null && outer.getSimpleName().contentEquals("Equaltexts");
    }

    // ---- the file and its classes

    private void countsOfTheFile() {
        if (unit.getPackageName() != null) {
            found(1, unit, "a package line");
        }
        if (unit.getTypeDecls().size() != 1) {
            found(1, unit, "not one class alone");
        }
        if (ownClasses.size() > MOST_CLASSES) {
            found(11, unit, ownClasses.size() + " classes");
        }
        for (String method : calls.keySet()) {
            int deep = depthOf(method, new LinkedHashSet<>());
            if (deep > MOST_CALLS_DEEP) {
                found(11, unit, method + " goes " + deep + " calls deep");
            }
        }
    }

    /** How many own methods stand open at most, this one too; a ring of calls is a finding of its own. */
    private int depthOf(String method, Set<String> open) {
        Integer known = deepest.get(method);
        if (known != null) {
            return known;
        }
        if (!open.add(method)) {
            found(8, unit, "a ring of calls through " + method);
            return 0;
        }
        int deep = 1;
        for (String called : calls.getOrDefault(method, Set.of())) {
            deep = Math.max(deep, 1 + depthOf(called, open));
        }
        open.remove(method);
        deepest.put(method, deep);
        return deep;
    }

    @Override
    public Void visitImport(ImportTree tree, Void none) {
        if (tree.isStatic() || !IMPORTS.contains(tree.getQualifiedIdentifier().toString())) {
            found(4, tree, "the import of " + tree.getQualifiedIdentifier());
        }
        return null;
    }

    @Override
    public Void visitClass(ClassTree tree, Void none) {
        Element element = elementOf(tree);
        Set<Modifier> modifiers = tree.getModifiers().getFlags();
        ownClasses.add(element.toString());
        boolean isOuter = element.getEnclosingElement().getKind() == ElementKind.PACKAGE;
        boolean isAnonymous = tree.getSimpleName().length() == 0;
        if (isOuter && !modifiers.containsAll(Set.of(Modifier.PUBLIC, Modifier.FINAL))) {
            found(1, tree, "the class is not public and final");
        } else if (!isOuter && (modifiers.contains(Modifier.PUBLIC) || modifiers.contains(Modifier.PROTECTED))) {
            found(1, tree, "a class inside that is public or protected");
        } else if (!isOuter && !isAnonymous && !element.getModifiers().contains(Modifier.STATIC)) {
            found(2, tree, "a class inside that is not static");
        }
        int fields = 0;
        for (Tree member : tree.getMembers()) {
            fields += member instanceof VariableTree && !isStatic((VariableTree) member) ? 1 : 0;
            if (member instanceof BlockTree && ((BlockTree) member).isStatic()) {
                found(5, member, "a static initialiser block");
            }
        }
        if (fields > MOST_FIELDS) {
            found(11, tree, fields + " fields");
        }
        return super.visitClass(tree, none);
    }

    private static boolean isStatic(VariableTree tree) {
        return tree.getModifiers().getFlags().contains(Modifier.STATIC);
    }

    // ---- methods, fields, types

    @Override
    public Void visitMethod(MethodTree tree, Void none) {
        Element element = elementOf(tree);
        boolean isOfTheFace = element.getModifiers().contains(Modifier.PUBLIC);
        boolean isOfTheOuter = element.getEnclosingElement().getSimpleName().contentEquals("Equaltexts");
        calls.putIfAbsent(named(element), new LinkedHashSet<>());
        if (isOfTheOuter && !isOfTheFace && !element.getModifiers().contains(Modifier.PRIVATE)) {
            found(1, tree, element + " is neither public nor private");
        }
        if (tree.getParameters().size() > MOST_PARAMETERS) {
            found(11, tree, element + " takes " + tree.getParameters().size());
        }
        if (linesOf(tree) > MOST_LINES) {
            found(11, tree, element + " has " + linesOf(tree) + " lines");
        }
        return super.visitMethod(tree, none);
    }

    private long linesOf(MethodTree tree) {
        long end = trees.getSourcePositions().getEndPosition(unit, tree);
        // A constructor that is not written out has no end.
        return end < 0 ? 0
            : unit.getLineMap().getLineNumber(end) - unit.getLineMap().getLineNumber(startOf(tree)) + 1;
    }

    private static String named(Element method) {
        return method.getEnclosingElement() + "." + method;
    }

    @Override
    public Void visitVariable(VariableTree tree, Void none) {
        Element element = elementOf(tree);
        TypeMirror type = element.asType();
        Tree parent = getCurrentPath().getParentPath().getLeaf();
        boolean isField = parent instanceof ClassTree;
        if (!(parent instanceof CatchTree) && !isKept(type)) {
            found(3, tree, "the type " + type);
        }
        if (isField && isStatic(tree)) {
            if (!tree.getModifiers().getFlags().contains(Modifier.FINAL) || !isConstant(type)) {
                found(5, tree, "static " + element + " of the type " + type);
            }
            if (type.getKind() == TypeKind.ARRAY) {
                constantArrays.add(element.toString());
            }
        } else if (isField && element.getEnclosingElement().getSimpleName().contentEquals("Equaltexts")
                && !tree.getModifiers().getFlags().contains(Modifier.PRIVATE)) {
            found(1, tree, element + " is not private");
        }
        return super.visitVariable(tree, none);
    }

    private static boolean isConstant(TypeMirror type) {
        TypeMirror one = type.getKind() == TypeKind.ARRAY ? ((ArrayType) type).getComponentType() : type;
        boolean isText = type.getKind() != TypeKind.ARRAY && type.toString().equals("java.lang.String");
        return isText || Set.of(TypeKind.INT, TypeKind.LONG, TypeKind.CHAR).contains(one.getKind())
            || one.getKind() == (type.getKind() == TypeKind.ARRAY ? TypeKind.BYTE : TypeKind.BOOLEAN);
    }

    private static boolean isKept(TypeMirror type) {
        if (type.getKind().isPrimitive() || type.getKind() == TypeKind.TYPEVAR) {
            return true;
        }
        if (type.getKind() == TypeKind.ARRAY) {
            TypeMirror row = ((ArrayType) type).getComponentType();
            if (row.getKind() == TypeKind.ARRAY) {
                return ((ArrayType) row).getComponentType().getKind().isPrimitive();
            }
            return row.getKind().isPrimitive()
                || row.getKind() == TypeKind.DECLARED && isOwn(((DeclaredType) row).asElement());
        }
        if (type.getKind() != TypeKind.DECLARED) {
            return false;
        }
        for (TypeMirror argument : ((DeclaredType) type).getTypeArguments()) {
            boolean isNumber = argument.toString().equals("java.lang.Integer");
            if (!isNumber && !(argument.getKind() == TypeKind.DECLARED
                    && isOwn(((DeclaredType) argument).asElement()))) {
                return false;
            }
        }
        return isOwn(((DeclaredType) type).asElement()) || KEPT_TYPES.contains(simple(type));
    }

    // ---- what is called and made

    private void called(Element method) {
        for (TreePath path = getCurrentPath(); path != null; path = path.getParentPath()) {
            if (path.getLeaf() instanceof MethodTree) {
                calls.computeIfAbsent(named(trees.getElement(path)), name -> new LinkedHashSet<>())
                    .add(named(method));
                return;
            }
        }
    }

    @Override
    public Void visitMethodInvocation(MethodInvocationTree tree, Void none) {
        Element method = elementOf(tree.getMethodSelect());
        String owner = simple(method.getEnclosingElement());
        String name = method.getSimpleName().toString();
        boolean isCloneOfARow = name.equals("clone") && owner.equals("Array");
        boolean isConstructor = method.getKind() == ElementKind.CONSTRUCTOR;
        if (isOwn(method)) {
            called(method);
        } else if (!isCloneOfARow && !isConstructor
                && !LIBRARY.getOrDefault(owner, Set.of()).contains(name)) {
            found(4, tree, owner + "." + name);
        } else if (owner.equals("Arrays") && !isRowOfNumbers(((ExecutableElement) method).getParameters().get(0))) {
            found(4, tree, "Arrays." + name + " over no numbers");
        }
        return super.visitMethodInvocation(tree, none);
    }

    private static boolean isRowOfNumbers(VariableElement parameter) {
        TypeMirror type = parameter.asType();
        return type.getKind() == TypeKind.ARRAY && ((ArrayType) type).getComponentType().getKind().isPrimitive()
            && ((ArrayType) type).getComponentType().getKind() != TypeKind.BOOLEAN;
    }

    @Override
    public Void visitNewClass(NewClassTree tree, Void none) {
        Element constructor = elementOf(tree);
        String made = simple(constructor.getEnclosingElement());
        boolean isThrown = getCurrentPath().getParentPath().getLeaf() instanceof ThrowTree;
        if (isOwn(constructor)) {
            called(constructor);
        } else if (!isThrown && !Set.of("ArrayList", "StringBuilder", "String").contains(made)) {
            found(4, tree, "new " + made);
        }
        return super.visitNewClass(tree, none);
    }

    @Override
    public Void visitMemberSelect(MemberSelectTree tree, Void none) {
        Element element = elementOf(tree);
        boolean isLength = tree.getIdentifier().contentEquals("length");
        if (element != null && element.getKind() == ElementKind.FIELD && !isOwn(element) && !isLength
                && !tree.getIdentifier().contentEquals("this")) {
            found(4, tree, "the field " + tree);
        }
        return super.visitMemberSelect(tree, none);
    }

    // ---- exceptions

    @Override
    public Void visitThrow(ThrowTree tree, Void none) {
        ExpressionTree thrown = tree.getExpression();
        if (!(thrown instanceof NewClassTree)) {
            found(6, tree, "a throw of no new exception");
            return super.visitThrow(tree, none);
        }
        List<? extends ExpressionTree> told = ((NewClassTree) thrown).getArguments();
        boolean isWritten = told.isEmpty() || told.size() == 1 && told.get(0) instanceof LiteralTree;
        if (!EXCEPTIONS.contains(simple(typeOf(thrown))) || !isWritten) {
            found(6, tree, "a throw of " + thrown);
        }
        for (TreePath path = getCurrentPath(); path != null; path = path.getParentPath()) {
            if (path.getLeaf() instanceof MethodTree && ((MethodTree) path.getLeaf()).getReturnType() == null) {
                found(6, tree, "a throw in a constructor");
            }
            if (path.getLeaf() instanceof TryTree) {
                found(6, tree, "a throw in the method that catches");
            }
        }
        return super.visitThrow(tree, none);
    }

    @Override
    public Void visitTry(TryTree tree, Void none) {
        if (tree.getFinallyBlock() != null || !tree.getResources().isEmpty()) {
            found(6, tree, "finally, or resources");
        }
        return super.visitTry(tree, none);
    }

    @Override
    public Void visitCatch(CatchTree tree, Void none) {
        String caught = simple(tree.getParameter().getType());
        if (MACHINE_EXCEPTIONS.contains(caught) || !EXCEPTIONS.contains(caught)) {
            found(6, tree, "a catch of " + caught);
        }
        return super.visitCatch(tree, none);
    }

    // ---- statements and expressions

    @Override
    public Void visitSynchronized(SynchronizedTree tree, Void none) {
        found(6, tree, "synchronized");
        return super.visitSynchronized(tree, none);
    }

    @Override
    public Void visitAssert(AssertTree tree, Void none) {
        found(6, tree, "assert");
        return super.visitAssert(tree, none);
    }

    @Override
    public Void visitLambdaExpression(LambdaExpressionTree tree, Void none) {
        found(2, tree, "a lambda");
        return null;
    }

    @Override
    public Void visitMemberReference(MemberReferenceTree tree, Void none) {
        found(2, tree, "a method reference");
        return null;
    }

    @Override
    public Void visitForLoop(ForLoopTree tree, Void none) {
        endOf(tree, tree.getCondition());
        return super.visitForLoop(tree, none);
    }

    @Override
    public Void visitWhileLoop(WhileLoopTree tree, Void none) {
        endOf(tree, tree.getCondition());
        return super.visitWhileLoop(tree, none);
    }

    @Override
    public Void visitDoWhileLoop(DoWhileLoopTree tree, Void none) {
        endOf(tree, tree.getCondition());
        return super.visitDoWhileLoop(tree, none);
    }

    private void endOf(Tree loop, ExpressionTree condition) {
        if (condition == null || condition.toString().replaceAll("[()]", "").equals("true")) {
            found(9, loop, "a loop without an end of its own");
        }
    }

    @Override
    public Void visitBinary(BinaryTree tree, Void none) {
        boolean isText = isText(tree.getLeftOperand()) || isText(tree.getRightOperand());
        if (tree.getKind() == Tree.Kind.PLUS && isText) {
            found(10, tree, "texts joined by +");
        }
        boolean isCompared = tree.getKind() == Tree.Kind.EQUAL_TO || tree.getKind() == Tree.Kind.NOT_EQUAL_TO;
        if (isCompared && isText(tree.getLeftOperand()) && isText(tree.getRightOperand())) {
            found(6, tree, "texts compared by " + tree);
        }
        if (tree.getKind() == Tree.Kind.DIVIDE || tree.getKind() == Tree.Kind.REMAINDER) {
            divided(tree, tree.getRightOperand());
        }
        return super.visitBinary(tree, none);
    }

    private boolean isText(ExpressionTree tree) {
        return typeOf(tree) != null && Set.of("java.lang.String", "java.lang.Integer").contains(typeOf(tree).toString());
    }

    @Override
    public Void visitCompoundAssignment(CompoundAssignmentTree tree, Void none) {
        if (tree.getKind() == Tree.Kind.PLUS_ASSIGNMENT && isText(tree.getVariable())) {
            found(10, tree, "texts joined by +=");
        }
        if (tree.getKind() == Tree.Kind.DIVIDE_ASSIGNMENT || tree.getKind() == Tree.Kind.REMAINDER_ASSIGNMENT) {
            divided(tree, tree.getExpression());
        }
        return super.visitCompoundAssignment(tree, none);
    }

    /** A divisor is a constant, or its method looks at it: at its name, or whether its list is empty. */
    private void divided(Tree division, ExpressionTree divisor) {
        Element element = elementOf(divisor);
        boolean isConstant = divisor instanceof LiteralTree || element instanceof VariableElement
            && ((VariableElement) element).getConstantValue() != null;
        if (isConstant) {
            return;
        }
        String name = divisor.toString().replaceAll("^\\(\\w+\\)", "").replace(".size()", "");
        for (TreePath path = getCurrentPath(); path != null; path = path.getParentPath()) {
            if (path.getLeaf() instanceof MethodTree) {
                String method = path.getLeaf().toString();
                if (!method.contains(name + " > 0") && !method.contains(name + ".isEmpty()")) {
                    found(7, division, "a divisor that is not looked at: " + divisor);
                }
            }
        }
    }

    @Override
    public Void visitAssignment(AssignmentTree tree, Void none) {
        String target = tree.getVariable().toString();
        if (target.contains("[") && constantArrays.contains(target.substring(0, target.indexOf('[')))) {
            found(5, tree, "a constant array is changed");
        }
        return super.visitAssignment(tree, none);
    }
}
