import com.sun.source.tree.*;
import com.sun.source.util.JavacTask;
import com.sun.source.util.TreePath;
import com.sun.source.util.TreePathScanner;
import com.sun.source.util.TreeScanner;
import com.sun.source.util.Trees;
import java.io.IOException;
import java.net.URI;
import java.util.ArrayList;
import java.util.HashSet;
import java.util.List;
import java.util.Set;
import javax.lang.model.element.Element;
import javax.lang.model.element.ElementKind;
import javax.lang.model.element.ExecutableElement;
import javax.lang.model.element.Modifier;
import javax.lang.model.element.TypeElement;
import javax.lang.model.element.VariableElement;
import javax.lang.model.type.ArrayType;
import javax.lang.model.type.DeclaredType;
import javax.lang.model.type.TypeKind;
import javax.lang.model.type.TypeMirror;
import javax.tools.Diagnostic;
import javax.tools.DiagnosticCollector;
import javax.tools.JavaFileObject;
import javax.tools.SimpleJavaFileObject;
import javax.tools.ToolProvider;

/** What of LANGUAGE.md the compiler's own tree of a source shows to be broken, each with the rule's number. */
final class Rules extends TreePathScanner<Void, Void> {
    private static final String FACE_CLASS = "LockTurns";
    private static final Set<String> CONSTANTS = Set.of("BAD", "STATE", "FULL", "NONE");
    private static final Set<String> LIBRARY = Set.of(
            "String.length", "String.charAt", "String.isEmpty", "String.equals", "String.indexOf", "String.substring",
            "String.toCharArray", "StringBuilder.append", "StringBuilder.charAt", "StringBuilder.setCharAt",
            "StringBuilder.setLength", "StringBuilder.deleteCharAt", "StringBuilder.reverse", "StringBuilder.length",
            "StringBuilder.toString", "ArrayList.add", "ArrayList.get", "ArrayList.set", "ArrayList.remove",
            "ArrayList.size", "ArrayList.isEmpty", "ArrayList.clear", "List.add", "List.get", "List.set", "List.remove",
            "List.size", "List.isEmpty", "List.clear", "List.of", "System.arraycopy", "Arrays.copyOf",
            "Arrays.copyOfRange", "Arrays.fill", "Object.<init>", "Enum.<init>");
    private static final Set<String> TYPES = Set.of("String", "StringBuilder", "Integer", "ArrayList", "List",
            "Iterator", "Iterable", "Comparable");
    private static final Set<String> IMPORTS = Set.of("java.util.Arrays", "java.util.ArrayList", "java.util.List",
            "java.util.Iterator");
    private static final Set<TypeKind> STATICS = Set.of(TypeKind.INT, TypeKind.LONG, TypeKind.BOOLEAN, TypeKind.CHAR);
    private static final Set<TypeKind> STATIC_ROWS = Set.of(TypeKind.INT, TypeKind.LONG, TypeKind.CHAR, TypeKind.BYTE);
    private static final Set<TypeKind> NUMBERS_AND_TRUTHS = Set.of(TypeKind.INT, TypeKind.LONG, TypeKind.BOOLEAN);
    private static final int PARAMETERS = 7, LINES = 60, CLASSES = 12, FIELDS = 20, DEPTH = 8;

    private final Trees trees;
    private final CompilationUnitTree unit;
    private final List<String> broken = new ArrayList<>();
    private final CallGraph calls = new CallGraph();
    private int classes;

    private Rules(Trees trees, CompilationUnitTree unit) {
        this.trees = trees;
        this.unit = unit;
    }

    static List<String> brokenBy(String source) throws IOException {
        JavaFileObject file = new SimpleJavaFileObject(URI.create("string:///" + FACE_CLASS + ".java"),
                JavaFileObject.Kind.SOURCE) {
            @Override
            public CharSequence getCharContent(boolean ignoreEncodingErrors) {
                return source;
            }
        };
        DiagnosticCollector<JavaFileObject> said = new DiagnosticCollector<>();
        JavacTask task = (JavacTask) ToolProvider.getSystemJavaCompiler().getTask(null, null, said,
                List.of("--release", "17", "-proc:none"), null, List.of(file));
        CompilationUnitTree unit = task.parse().iterator().next();
        task.analyze();
        for (Diagnostic<? extends JavaFileObject> one : said.getDiagnostics()) {
            if (one.getKind() == Diagnostic.Kind.ERROR) {
                throw new IllegalStateException("does not compile: " + one);
            }
        }
        Rules rules = new Rules(Trees.instance(task), unit);
        rules.scan(unit, null);
        rules.whole(source);
        return rules.broken;
    }

    private void must(int rule, boolean holds, String what) {
        if (!holds) {
            broken.add("rule " + rule + ": " + what);
        }
    }

    /** Rules that are seen only when all has been read. */
    private void whole(String source) {
        must(0, unit.getPackageName() == null, "a package line");
        must(0, unit.getTypeDecls().size() == 1, "more than one class in the file");
        must(4, source.chars().allMatch(c -> c == '\n' || c >= 32 && c < 127), "a sign beyond 127");
        must(11, classes <= CLASSES, classes + " classes");
        for (ExecutableElement method : calls.recursive()) {
            must(8, method.getModifiers().contains(Modifier.PRIVATE)
                    || method.getEnclosingElement().getKind() == ElementKind.INTERFACE, "recursion of " + method);
        }
        must(11, calls.deepest() <= DEPTH, "calls go " + calls.deepest() + " deep");
    }

    // ---- what an element is

    private Element element(Tree tree) {
        return trees.getElement(new TreePath(getCurrentPath(), tree));
    }

    private TypeMirror type(Tree tree) {
        return trees.getTypeMirror(new TreePath(getCurrentPath(), tree));
    }

    private static boolean isOwn(Element element) {
        Element outermost = element;
        for (Element e = element; e != null && e.getKind() != ElementKind.PACKAGE; e = e.getEnclosingElement()) {
            outermost = e;
        }
        return outermost.getSimpleName().contentEquals(FACE_CLASS);
    }

    private static boolean isStaticField(Element element) {
        return element != null && element.getKind() == ElementKind.FIELD
                && element.getModifiers().contains(Modifier.STATIC);
    }

    private static boolean isOf(TypeMirror type, String library) {
        return type instanceof DeclaredType d && d.asElement().toString().equals("java.lang." + library);
    }

    // ---- classes and members

    @Override
    public Void visitImport(ImportTree tree, Void v) {
        must(4, IMPORTS.contains(tree.getQualifiedIdentifier().toString()), tree.toString().trim());
        return null;
    }

    @Override
    public Void visitClass(ClassTree tree, Void v) {
        classes++;
        TypeElement is = (TypeElement) trees.getElement(getCurrentPath());
        Set<Modifier> marks = is.getModifiers();
        if (getCurrentPath().getParentPath().getLeaf() instanceof CompilationUnitTree) {
            must(1, is.getSimpleName().contentEquals(FACE_CLASS) && marks.contains(Modifier.PUBLIC)
                    && marks.contains(Modifier.FINAL), "the class is not public and final");
            noPrivateMethodBearsAPublicName(is);
        } else {
            must(2, getCurrentPath().getParentPath().getLeaf() instanceof ClassTree, "a local class " + is);
            must(2, marks.contains(Modifier.STATIC), is + " is not static");
            must(1, !marks.contains(Modifier.PUBLIC) && !marks.contains(Modifier.PROTECTED), is + " is shown");
        }
        int fields = 0;
        for (Element member : is.getEnclosedElements()) {
            fields += member.getKind() == ElementKind.FIELD && !isStaticField(member) ? 1 : 0;
        }
        must(11, fields <= FIELDS, is + " has " + fields + " fields");
        return super.visitClass(tree, v);
    }

    private void noPrivateMethodBearsAPublicName(TypeElement is) {
        Set<String> shown = new HashSet<>();
        Set<String> hidden = new HashSet<>();
        for (Element member : is.getEnclosedElements()) {
            boolean isPrivate = member.getModifiers().contains(Modifier.PRIVATE);
            if (member.getKind() == ElementKind.METHOD) {
                (isPrivate ? hidden : shown).add(member.getSimpleName().toString());
            }
            must(1, isPrivate || member.getModifiers().contains(Modifier.PUBLIC) || member.getKind().isClass()
                    || member.getKind().isInterface(), member + " can be seen from outside");
            must(1, isPrivate || member.getKind() != ElementKind.FIELD
                    || CONSTANTS.contains(member.getSimpleName().toString()), "no such constant: " + member);
        }
        hidden.retainAll(shown);
        must(1, hidden.isEmpty(), "private, with a public name: " + hidden);
    }

    @Override
    public Void visitMethod(MethodTree tree, Void v) {
        ExecutableElement is = (ExecutableElement) trees.getElement(getCurrentPath());
        calls.add(is);
        must(6, tree.getThrows().isEmpty() && !is.getModifiers().contains(Modifier.SYNCHRONIZED), "throws: " + is);
        String name = is.getSimpleName().toString();
        must(6, !Set.of("equals", "hashCode", "toString").contains(name), "a " + name + " of its own");
        must(11, is.getParameters().size() <= PARAMETERS, is + " takes " + is.getParameters().size());
        long from = trees.getSourcePositions().getStartPosition(unit, tree);
        long to = trees.getSourcePositions().getEndPosition(unit, tree);
        if (from >= 0 && to >= 0) {
            long lines = unit.getLineMap().getLineNumber(to) - unit.getLineMap().getLineNumber(from) + 1;
            must(11, lines <= LINES, is + " has " + lines + " lines");
        }
        must(3, isAllowed(is.getReturnType()) || name.equals("<init>"), is + " answers " + is.getReturnType());
        return super.visitMethod(tree, v);
    }

    @Override
    public Void visitBlock(BlockTree tree, Void v) {
        must(5, !tree.isStatic(), "a static initialiser");
        return super.visitBlock(tree, v);
    }

    @Override
    public Void visitVariable(VariableTree tree, Void v) {
        Element is = trees.getElement(getCurrentPath());
        must(3, is == null || isAllowed(is.asType()), "type of " + tree);
        if (isStaticField(is)) {
            must(5, is.getModifiers().contains(Modifier.FINAL), tree + " is not final");
            boolean isRow = is.asType() instanceof ArrayType row && STATIC_ROWS.contains(row.getComponentType().getKind())
                    && tree.getInitializer() instanceof NewArrayTree init && init.getInitializers() != null;
            boolean isValue = STATICS.contains(is.asType().getKind()) || isOf(is.asType(), "String");
            must(5, isRow || isValue || is.getKind() == ElementKind.ENUM_CONSTANT, "static " + tree);
        }
        return super.visitVariable(tree, v);
    }

    private static boolean isAllowed(TypeMirror type) {
        if (type.getKind().isPrimitive() || type.getKind() == TypeKind.VOID || type.getKind() == TypeKind.TYPEVAR) {
            return true;
        }
        if (type instanceof ArrayType row) {
            TypeMirror of = row.getComponentType();
            if (of instanceof ArrayType inner) {
                return inner.getComponentType().getKind().isPrimitive();
            }
            return of.getKind().isPrimitive() || of instanceof DeclaredType d && isOwn(d.asElement());
        }
        return type instanceof DeclaredType d
                && (isOwn(d.asElement()) || TYPES.contains(d.asElement().getSimpleName().toString()));
    }

    // ---- what may not stand at all

    @Override
    public Void visitLambdaExpression(LambdaExpressionTree tree, Void v) {
        must(2, false, "a lambda");
        return super.visitLambdaExpression(tree, v);
    }

    @Override
    public Void visitMemberReference(MemberReferenceTree tree, Void v) {
        must(2, false, "a method reference");
        return super.visitMemberReference(tree, v);
    }

    @Override
    public Void visitThrow(ThrowTree tree, Void v) {
        must(6, false, "throw");
        return super.visitThrow(tree, v);
    }

    @Override
    public Void visitTry(TryTree tree, Void v) {
        must(6, false, "try");
        return super.visitTry(tree, v);
    }

    @Override
    public Void visitSynchronized(SynchronizedTree tree, Void v) {
        must(6, false, "synchronized");
        return super.visitSynchronized(tree, v);
    }

    @Override
    public Void visitAssert(AssertTree tree, Void v) {
        must(6, false, "assert");
        return super.visitAssert(tree, v);
    }

    @Override
    public Void visitTypeCast(TypeCastTree tree, Void v) {
        TypeMirror to = type(tree.getType());
        must(6, to.getKind().isPrimitive() || to instanceof DeclaredType d && isOwn(d.asElement()), "cast " + tree);
        return super.visitTypeCast(tree, v);
    }

    @Override
    public Void visitBinary(BinaryTree tree, Void v) {
        TypeMirror left = type(tree.getLeftOperand());
        TypeMirror right = type(tree.getRightOperand());
        if (tree.getKind() == Tree.Kind.EQUAL_TO || tree.getKind() == Tree.Kind.NOT_EQUAL_TO) {
            must(6, !(isOf(left, "String") && isOf(right, "String")), "two Strings by " + tree);
            must(6, !(isOf(left, "Integer") && isOf(right, "Integer")), "two Integers by " + tree);
        }
        must(10, tree.getKind() != Tree.Kind.PLUS || !isOf(left, "String") && !isOf(right, "String"), "texts by +");
        return super.visitBinary(tree, v);
    }

    @Override
    public Void visitLiteral(LiteralTree tree, Void v) {
        must(4, !(tree.getValue() instanceof String s) || s.chars().allMatch(c -> c >= 1 && c <= 127), "signs of " + tree);
        return super.visitLiteral(tree, v);
    }

    // ---- what is called and made

    @Override
    public Void visitMethodInvocation(MethodInvocationTree tree, Void v) {
        ExecutableElement is = (ExecutableElement) trees.getElement(getCurrentPath());
        call(is);
        must(4, isOwn(is) || isOfTheLibrary(is) || isCloneOfRow(tree), "no such call is told: " + tree);
        ExpressionTree changed = changedRow(tree);
        must(5, changed == null || !isStaticField(element(changed)), "a constant row is changed by " + tree);
        must(12, !isConstructing() || !isOwn(is) || !canBeOverridden(is), is + " in a constructor");
        return super.visitMethodInvocation(tree, v);
    }

    private void call(ExecutableElement is) {
        TreePath method = getCurrentPath();
        while (method != null && !(method.getLeaf() instanceof MethodTree)) {
            method = method.getParentPath();
        }
        if (method != null && isOwn(is)) {
            calls.add((ExecutableElement) trees.getElement(method), is);
        }
    }

    private boolean isCloneOfRow(MethodInvocationTree tree) {
        return tree.getMethodSelect() instanceof MemberSelectTree select && select.getIdentifier().contentEquals("clone")
                && type(select.getExpression()).getKind() == TypeKind.ARRAY;
    }

    private static boolean isOfTheLibrary(ExecutableElement is) {
        String owner = is.getEnclosingElement().getSimpleName().toString();
        String name = is.getSimpleName().toString();
        if (Set.of("Integer", "Long", "Math").contains(owner)) {
            boolean ofNumbers = is.getParameters().stream().map(VariableElement::asType).map(TypeMirror::getKind)
                    .allMatch(k -> k == TypeKind.INT || k == TypeKind.LONG);
            return ofNumbers && is.getModifiers().contains(Modifier.STATIC) && !name.endsWith("Exact")
                    && NUMBERS_AND_TRUTHS.contains(is.getReturnType().getKind());
        }
        return LIBRARY.contains(owner + "." + name);
    }

    private static ExpressionTree changedRow(MethodInvocationTree tree) {
        String called = tree.getMethodSelect().toString();
        int which = called.equals("System.arraycopy") ? 2 : called.equals("Arrays.fill") ? 0 : -1;
        return which < 0 ? null : tree.getArguments().get(which);
    }

    private boolean isConstructing() {
        TreePath at = getCurrentPath();
        while (at != null && !(at.getLeaf() instanceof MethodTree)) {
            at = at.getParentPath();
        }
        return at != null && ((MethodTree) at.getLeaf()).getReturnType() == null;
    }

    private static boolean canBeOverridden(ExecutableElement is) {
        Set<Modifier> marks = is.getModifiers();
        return is.getKind() == ElementKind.METHOD && !marks.contains(Modifier.PRIVATE)
                && !marks.contains(Modifier.STATIC) && !marks.contains(Modifier.FINAL)
                && !is.getEnclosingElement().getModifiers().contains(Modifier.FINAL);
    }

    @Override
    public Void visitNewClass(NewClassTree tree, Void v) {
        must(2, tree.getClassBody() == null, "an anonymous class");
        Element made = element(tree.getIdentifier());
        must(4, isOwn(made) || Set.of("ArrayList", "StringBuilder", "String").contains(made.getSimpleName().toString()),
                tree.toString());
        if (trees.getElement(getCurrentPath()) instanceof ExecutableElement constructor) {
            call(constructor);
        }
        return super.visitNewClass(tree, v);
    }

    @Override
    public Void visitIdentifier(IdentifierTree tree, Void v) {
        Tree around = getCurrentPath().getParentPath().getLeaf();
        boolean isHandedOut = tree.getName().contentEquals("this") && !(around instanceof MemberSelectTree);
        must(12, !isHandedOut || !isConstructing(), "a constructor hands out this");
        return super.visitIdentifier(tree, v);
    }

    @Override
    public Void visitMemberSelect(MemberSelectTree tree, Void v) {
        Element is = trees.getElement(getCurrentPath());
        boolean isForeign = is != null && is.getKind() == ElementKind.FIELD && !isOwn(is)
                && is.getEnclosingElement() != null && is.getEnclosingElement().getKind().isClass()
                && !tree.getIdentifier().contentEquals("length");
        must(4, !isForeign, "no such constant is told: " + tree);
        return super.visitMemberSelect(tree, v);
    }

    // ---- what is changed

    @Override
    public Void visitAssignment(AssignmentTree tree, Void v) {
        changes(tree.getVariable());
        return super.visitAssignment(tree, v);
    }

    @Override
    public Void visitCompoundAssignment(CompoundAssignmentTree tree, Void v) {
        changes(tree.getVariable());
        must(10, !isOf(type(tree.getVariable()), "String"), "texts by +=");
        return super.visitCompoundAssignment(tree, v);
    }

    @Override
    public Void visitUnary(UnaryTree tree, Void v) {
        if (isStep(tree)) {
            changes(tree.getExpression());
        }
        return super.visitUnary(tree, v);
    }

    private void changes(ExpressionTree target) {
        if (target instanceof ArrayAccessTree row) {
            must(5, !isStaticField(element(row.getExpression())), "a constant row is changed: " + target);
        }
    }

    private static boolean isStep(UnaryTree tree) {
        return Set.of(Tree.Kind.POSTFIX_INCREMENT, Tree.Kind.POSTFIX_DECREMENT, Tree.Kind.PREFIX_INCREMENT,
                Tree.Kind.PREFIX_DECREMENT).contains(tree.getKind());
    }

    // ---- loops

    @Override
    public Void visitForLoop(ForLoopTree tree, Void v) {
        List<Tree> changing = new ArrayList<>(tree.getUpdate());
        changing.add(tree.getStatement());
        must(9, tree.getCondition() != null && ends(tree.getCondition(), changing), "for (.. " + tree.getCondition());
        return super.visitForLoop(tree, v);
    }

    @Override
    public Void visitWhileLoop(WhileLoopTree tree, Void v) {
        must(9, ends(tree.getCondition(), List.of(tree.getStatement())), "while " + tree.getCondition());
        return super.visitWhileLoop(tree, v);
    }

    @Override
    public Void visitDoWhileLoop(DoWhileLoopTree tree, Void v) {
        must(9, ends(tree.getCondition(), List.of(tree.getStatement())), "do .. while " + tree.getCondition());
        return super.visitDoWhileLoop(tree, v);
    }

    /** Something that the loop's condition compares is changed by the loop's own lines. */
    private static boolean ends(ExpressionTree condition, List<Tree> changing) {
        Set<String> compared = new HashSet<>();
        new TreeScanner<Void, Void>() {
            @Override
            public Void visitIdentifier(IdentifierTree tree, Void v) {
                compared.add(tree.getName().toString());
                return null;
            }
        }.scan(condition, null);
        Set<String> changed = new HashSet<>();
        TreeScanner<Void, Void> seek = new TreeScanner<>() {
            @Override
            public Void visitAssignment(AssignmentTree tree, Void v) {
                changed.add(tree.getVariable().toString());
                return super.visitAssignment(tree, v);
            }

            @Override
            public Void visitCompoundAssignment(CompoundAssignmentTree tree, Void v) {
                changed.add(tree.getVariable().toString());
                return super.visitCompoundAssignment(tree, v);
            }

            @Override
            public Void visitUnary(UnaryTree tree, Void v) {
                if (isStep(tree)) {
                    changed.add(tree.getExpression().toString());
                }
                return super.visitUnary(tree, v);
            }
        };
        for (Tree tree : changing) {
            seek.scan(tree, null);
        }
        compared.retainAll(changed);
        return !compared.isEmpty();
    }
}
