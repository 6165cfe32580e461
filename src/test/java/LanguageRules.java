import com.sun.source.tree.ArrayAccessTree;
import com.sun.source.tree.AssertTree;
import com.sun.source.tree.AssignmentTree;
import com.sun.source.tree.BinaryTree;
import com.sun.source.tree.BlockTree;
import com.sun.source.tree.ClassTree;
import com.sun.source.tree.CompilationUnitTree;
import com.sun.source.tree.CompoundAssignmentTree;
import com.sun.source.tree.DoWhileLoopTree;
import com.sun.source.tree.EnhancedForLoopTree;
import com.sun.source.tree.ExpressionTree;
import com.sun.source.tree.ForLoopTree;
import com.sun.source.tree.IdentifierTree;
import com.sun.source.tree.ImportTree;
import com.sun.source.tree.InstanceOfTree;
import com.sun.source.tree.LambdaExpressionTree;
import com.sun.source.tree.LiteralTree;
import com.sun.source.tree.MemberReferenceTree;
import com.sun.source.tree.MemberSelectTree;
import com.sun.source.tree.MethodInvocationTree;
import com.sun.source.tree.MethodTree;
import com.sun.source.tree.NewArrayTree;
import com.sun.source.tree.NewClassTree;
import com.sun.source.tree.ParenthesizedTree;
import com.sun.source.tree.SwitchTree;
import com.sun.source.tree.SynchronizedTree;
import com.sun.source.tree.ThrowTree;
import com.sun.source.tree.Tree;
import com.sun.source.tree.TryTree;
import com.sun.source.tree.UnaryTree;
import com.sun.source.tree.VariableTree;
import com.sun.source.tree.WhileLoopTree;
import com.sun.source.util.TreePath;
import com.sun.source.util.TreePathScanner;
import com.sun.source.util.Trees;
import java.util.ArrayList;
import java.util.EnumSet;
import java.util.LinkedHashMap;
import java.util.LinkedHashSet;
import java.util.List;
import java.util.Map;
import java.util.Set;
import javax.lang.model.element.Element;
import javax.lang.model.element.ElementKind;
import javax.lang.model.element.ExecutableElement;
import javax.lang.model.element.Modifier;
import javax.lang.model.element.TypeElement;
import javax.lang.model.type.ArrayType;
import javax.lang.model.type.DeclaredType;
import javax.lang.model.type.TypeKind;
import javax.lang.model.type.TypeMirror;

/** Walks over the tree of one file, and tells each place that breaks a rule of ../shared/LANGUAGE.md: "number, line: what". */
final class LanguageRules extends TreePathScanner<Void, Void> {
    private static final String FILE_CLASS = "Daywall";
    private static final Set<String> IMPORTS = Set.of("java.util.ArrayList", "java.util.Arrays", "java.util.List",
        "java.util.Iterator", "java.util.NoSuchElementException");
    private static final Set<String> EXCEPTIONS = Set.of("java.lang.IllegalStateException", "java.lang.IllegalArgumentException",
        "java.lang.IndexOutOfBoundsException", "java.lang.ArithmeticException", "java.lang.UnsupportedOperationException",
        "java.util.NoSuchElementException", "java.lang.RuntimeException");
    private static final Set<String> TYPES = Set.of("java.lang.String", "java.lang.StringBuilder", "java.lang.Integer",
        "java.util.ArrayList", "java.util.List", "java.util.Iterator", "java.lang.Iterable", "java.lang.Comparable");
    private static final Set<String> STATICS_ONLY = Set.of("java.lang.Math", "java.lang.Long", "java.lang.System", "java.util.Arrays");
    /** What may be called of the library, each with the types of its parameters. */
    private static final Set<String> CALLS = Set.of(
        "String.length()", "String.charAt(int)", "String.isEmpty()", "String.equals(Object)", "String.indexOf(int)",
        "String.substring(int)", "String.substring(int,int)", "String.toCharArray()",
        "StringBuilder.append(char)", "StringBuilder.append(String)", "StringBuilder.append(int)", "StringBuilder.charAt(int)",
        "StringBuilder.setCharAt(int,char)", "StringBuilder.setLength(int)", "StringBuilder.deleteCharAt(int)",
        "StringBuilder.reverse()", "StringBuilder.length()", "StringBuilder.toString()",
        "ArrayList.add(E)", "ArrayList.add(int,E)", "ArrayList.get(int)", "ArrayList.set(int,E)", "ArrayList.remove(int)",
        "ArrayList.size()", "ArrayList.isEmpty()", "ArrayList.clear()", "System.arraycopy(Object,int,Object,int,int)");
    private static final Set<String> NEW = Set.of("java.lang.StringBuilder", "java.util.ArrayList");
    private static final EnumSet<TypeKind> CONSTANT_KINDS = EnumSet.of(TypeKind.INT, TypeKind.LONG, TypeKind.BOOLEAN, TypeKind.CHAR);
    private static final EnumSet<TypeKind> CONSTANT_ROWS = EnumSet.of(TypeKind.INT, TypeKind.LONG, TypeKind.CHAR, TypeKind.BYTE);
    private static final int MOST_PARAMETERS = 7;
    private static final int MOST_LINES = 60;
    private static final int MOST_DEPTH = 8;
    private static final int MOST_CLASSES = 12;
    private static final int MOST_FIELDS = 20;

    final List<String> faults = new ArrayList<>();
    private final CompilationUnitTree unit;
    private final Trees trees;
    private final Set<Element> own = new LinkedHashSet<>();
    private final Map<Element, Set<Element>> calls = new LinkedHashMap<>();
    private final Map<Element, Integer> depths = new LinkedHashMap<>();

    LanguageRules(CompilationUnitTree unit, Trees trees) {
        this.unit = unit;
        this.trees = trees;
    }

    void look() {
        new TreePathScanner<Void, Void>() {
            @Override
            public Void visitClass(ClassTree tree, Void v) {
                own.add(trees.getElement(getCurrentPath()));
                return super.visitClass(tree, v);
            }
        }.scan(new TreePath(unit), null);
        scan(new TreePath(unit), null);
        due(own.size() <= MOST_CLASSES, 11, unit, own.size() + " classes");
        for (Element method : calls.keySet()) {
            int depth = depthOf(method, new LinkedHashSet<>());
            due(depth <= MOST_DEPTH, 11, trees.getTree(method), method + " goes " + depth + " calls deep");
        }
    }

    private void due(boolean isRight, int rule, Tree at, String what) {
        if (!isRight) {
            long line = unit.getLineMap().getLineNumber(Math.max(0, trees.getSourcePositions().getStartPosition(unit, at)));
            faults.add(rule + ", line " + line + ": " + what);
        }
    }

    private long lineOf(Tree tree, boolean isEnd) {
        long at = isEnd ? trees.getSourcePositions().getEndPosition(unit, tree) : trees.getSourcePositions().getStartPosition(unit, tree);
        return unit.getLineMap().getLineNumber(at);
    }

    private Element here() {
        return trees.getElement(getCurrentPath());
    }

    private TypeMirror typeOf(Tree tree) {
        return trees.getTypeMirror(new TreePath(getCurrentPath(), tree));
    }

    /** The nearest tree round this one of one of these kinds, up to that of a member of a class. */
    private boolean isWithin(Class<?>... kinds) {
        for (TreePath p = getCurrentPath().getParentPath(); p != null; p = p.getParentPath()) {
            for (Class<?> kind : kinds) {
                if (kind.isInstance(p.getLeaf())) {
                    return true;
                }
            }
            if (p.getLeaf() instanceof MethodTree || p.getLeaf() instanceof ClassTree) {
                return false;
            }
        }
        return false;
    }

    private MethodTree methodRound() {
        for (TreePath p = getCurrentPath(); p != null; p = p.getParentPath()) {
            if (p.getLeaf() instanceof MethodTree) {
                return (MethodTree) p.getLeaf();
            }
        }
        return null;
    }

    private Element elementRound() {
        for (TreePath p = getCurrentPath(); p != null; p = p.getParentPath()) {
            if (p.getLeaf() instanceof MethodTree) {
                return trees.getElement(p);
            }
        }
        return null;
    }

    private static Tree bare(Tree tree) {
        Tree t = tree;
        while (t instanceof ParenthesizedTree) {
            t = ((ParenthesizedTree) t).getExpression();
        }
        return t;
    }

    // ---- 1, 2, 11: the file, its classes and members

    @Override
    public Void visitCompilationUnit(CompilationUnitTree tree, Void v) {
        due(tree.getPackageName() == null, 1, tree, "a package line");
        due(tree.getTypeDecls().size() == 1, 1, tree, "not one class alone");
        return super.visitCompilationUnit(tree, v);
    }

    @Override
    public Void visitImport(ImportTree tree, Void v) {
        String name = tree.getQualifiedIdentifier().toString();
        due(!tree.isStatic() && IMPORTS.contains(name), 4, tree, "import of " + name);
        return null;
    }

    @Override
    public Void visitClass(ClassTree tree, Void v) {
        Set<Modifier> marks = tree.getModifiers().getFlags();
        Tree round = getCurrentPath().getParentPath().getLeaf();
        if (round instanceof CompilationUnitTree) {
            boolean isFace = tree.getSimpleName().contentEquals(FILE_CLASS) && marks.contains(Modifier.PUBLIC) && marks.contains(Modifier.FINAL);
            due(isFace, 1, tree, "not public final class Daywall");
        } else {
            due(round instanceof ClassTree, 2, tree, "a local or anonymous class");
            due(!marks.contains(Modifier.PUBLIC) && !marks.contains(Modifier.PROTECTED), 1, tree, "a class inside that is not hidden");
            boolean isStatic = marks.contains(Modifier.STATIC) || tree.getKind() != Tree.Kind.CLASS;
            due(isStatic, 1, tree, "a class inside that is not static");
        }
        if (tree.getExtendsClause() != null) {
            due(own.contains(elementOf(tree.getExtendsClause())), 6, tree, "a class of the library below it");
        }
        int fields = 0;
        for (Tree member : tree.getMembers()) {
            if (member instanceof VariableTree && !((VariableTree) member).getModifiers().getFlags().contains(Modifier.STATIC)) {
                fields++;
            }
            due(!(member instanceof BlockTree), 5, member, "an initialiser block");
        }
        due(fields <= MOST_FIELDS, 11, tree, fields + " fields");
        dueNames(tree);
        return super.visitClass(tree, v);
    }

    private Element elementOf(Tree tree) {
        return trees.getElement(new TreePath(getCurrentPath(), tree));
    }

    private void dueNames(ClassTree tree) {
        Set<String> shown = new LinkedHashSet<>();
        for (Tree member : tree.getMembers()) {
            if (member instanceof MethodTree && ((MethodTree) member).getModifiers().getFlags().contains(Modifier.PUBLIC)) {
                shown.add(((MethodTree) member).getName().toString());
            }
        }
        shown.remove("<init>");
        for (Tree member : tree.getMembers()) {
            if (member instanceof MethodTree && !((MethodTree) member).getModifiers().getFlags().contains(Modifier.PUBLIC)) {
                due(!shown.contains(((MethodTree) member).getName().toString()), 1, member, "a private method with a public one's name");
            }
        }
    }

    private boolean isOfFace() {
        Tree round = getCurrentPath().getParentPath().getLeaf();
        return round instanceof ClassTree && ((ClassTree) round).getSimpleName().contentEquals(FILE_CLASS);
    }

    @Override
    public Void visitMethod(MethodTree tree, Void v) {
        Set<Modifier> marks = tree.getModifiers().getFlags();
        String name = tree.getName().toString();
        calls.putIfAbsent(here(), new LinkedHashSet<>());
        boolean isSeen = !marks.contains(Modifier.PUBLIC) && !marks.contains(Modifier.PRIVATE);
        due(!isOfFace() || !isSeen, 1, tree, name + " can be seen, and is not public");
        due(tree.getParameters().size() <= MOST_PARAMETERS, 11, tree, name + " has more than seven parameters");
        due(lineOf(tree, true) - lineOf(tree, false) < MOST_LINES, 11, tree, name + " is longer than sixty lines");
        due(!Set.of("equals", "hashCode", "toString", "finalize", "clone").contains(name), 6, tree, name + " of an object of its own");
        due(!marks.contains(Modifier.SYNCHRONIZED) && !marks.contains(Modifier.NATIVE), 6, tree, name + " is synchronized or native");
        if (tree.getReturnType() != null) {
            dueType(typeOf(tree.getReturnType()), tree.getReturnType(), true);
        }
        return super.visitMethod(tree, v);
    }

    @Override
    public Void visitLambdaExpression(LambdaExpressionTree tree, Void v) {
        due(false, 2, tree, "a lambda");
        return super.visitLambdaExpression(tree, v);
    }

    @Override
    public Void visitMemberReference(MemberReferenceTree tree, Void v) {
        due(false, 2, tree, "a method reference");
        return super.visitMemberReference(tree, v);
    }

    // ---- 3, 5: types and fields

    @Override
    public Void visitVariable(VariableTree tree, Void v) {
        Element e = here();
        Set<Modifier> marks = e.getModifiers();
        dueType(e.asType(), tree, false);
        if (e.getKind() == ElementKind.FIELD) {
            due(!isOfFace() || marks.contains(Modifier.PRIVATE), 1, tree, "the field " + e + " is not private");
            boolean isOfEnum = e.getEnclosingElement().getKind() == ElementKind.ENUM;
            boolean isPlain = EnumSet.of(TypeKind.INT, TypeKind.LONG, TypeKind.BOOLEAN).contains(e.asType().getKind()) || isString(e.asType());
            due(!isOfEnum || marks.contains(Modifier.STATIC) || isPlain, 2, tree, "the enum's field " + e);
            if (marks.contains(Modifier.STATIC)) {
                dueConstant(tree, e);
            }
        }
        return super.visitVariable(tree, v);
    }

    private void dueConstant(VariableTree tree, Element e) {
        due(e.getModifiers().contains(Modifier.FINAL), 5, tree, e + " is static and not final");
        TypeMirror type = e.asType();
        boolean isRow = type.getKind() == TypeKind.ARRAY && CONSTANT_ROWS.contains(((ArrayType) type).getComponentType().getKind());
        due(isRow || isString(type) || CONSTANT_KINDS.contains(type.getKind()), 5, tree, e + " is no constant");
        boolean isWritten = tree.getInitializer() instanceof NewArrayTree && ((NewArrayTree) tree.getInitializer()).getInitializers() != null;
        due(!isRow || isWritten, 5, tree, e + " is not written out");
        due(tree.getInitializer() != null, 5, tree, e + " is not written where it stands");
    }

    private static boolean isString(TypeMirror type) {
        return type.toString().equals("java.lang.String");
    }

    private static boolean isNumber(TypeMirror type) {
        return type.getKind().isPrimitive();
    }

    private void dueType(TypeMirror type, Tree at, boolean isAnswer) {
        boolean isRight;
        switch (type.getKind()) {
            case VOID:
                isRight = isAnswer;
                break;
            case ARRAY:
                TypeMirror part = ((ArrayType) type).getComponentType();
                boolean isRowOfRows = part.getKind() == TypeKind.ARRAY && isNumber(((ArrayType) part).getComponentType());
                isRight = isNumber(part) || isRowOfRows || isOwn(part);
                break;
            case DECLARED:
                isRight = isOwn(type) || TYPES.contains(nameOf(type));
                for (TypeMirror of : ((DeclaredType) type).getTypeArguments()) {
                    isRight &= isOwn(of) || of.toString().equals("java.lang.Integer") || of.getKind() == TypeKind.TYPEVAR;
                }
                break;
            default:
                isRight = isNumber(type) || type.getKind() == TypeKind.TYPEVAR;
                break;
        }
        due(isRight, 3, at, "the type " + type);
    }

    private static String nameOf(TypeMirror type) {
        return ((TypeElement) ((DeclaredType) type).asElement()).getQualifiedName().toString();
    }

    private boolean isOwn(TypeMirror type) {
        return type.getKind() == TypeKind.DECLARED && own.contains(((DeclaredType) type).asElement());
    }

    @Override
    public Void visitNewArray(NewArrayTree tree, Void v) {
        dueType(typeOfHere(), tree, false);
        dueNoLoop(tree);
        return super.visitNewArray(tree, v);
    }

    private TypeMirror typeOfHere() {
        return trees.getTypeMirror(getCurrentPath());
    }

    @Override
    public Void visitIdentifier(IdentifierTree tree, Void v) {
        dueName(here(), tree);
        return super.visitIdentifier(tree, v);
    }

    @Override
    public Void visitMemberSelect(MemberSelectTree tree, Void v) {
        dueName(here(), tree);
        return super.visitMemberSelect(tree, v);
    }

    /** That a class that is named is one of those that the rules list. */
    private void dueName(Element e, Tree at) {
        if (e instanceof TypeElement && !own.contains(e)) {
            String name = ((TypeElement) e).getQualifiedName().toString();
            due(TYPES.contains(name) || EXCEPTIONS.contains(name) || STATICS_ONLY.contains(name), 4, at, "the class " + name);
        }
    }

    // ---- 4, 8, 13: calls

    @Override
    public Void visitMethodInvocation(MethodInvocationTree tree, Void v) {
        Element called = here();
        if (called instanceof ExecutableElement && own.contains(called.getEnclosingElement())) {
            noteCall(called);
        } else if (called instanceof ExecutableElement && !isGivenSuper(called)) {
            due(isListed((ExecutableElement) called), 4, tree, "the call of " + called.getEnclosingElement() + "." + called);
            noteCall(called);
        }
        return super.visitMethodInvocation(tree, v);
    }

    /** The call of Object's constructor, which the compiler writes. */
    private static boolean isGivenSuper(Element called) {
        return called.getKind() == ElementKind.CONSTRUCTOR && called.getEnclosingElement().toString().equals("java.lang.Object");
    }

    private void noteCall(Element called) {
        Element round = elementRound();
        if (round != null) {
            calls.computeIfAbsent(round, k -> new LinkedHashSet<>()).add(called);
        }
    }

    private static boolean isListed(ExecutableElement called) {
        // What a StringBuilder takes from a class above it that cannot be seen.
        String owner = called.getEnclosingElement().getSimpleName().toString().replace("AbstractStringBuilder", "StringBuilder");
        List<String> kinds = new ArrayList<>();
        boolean isOfNumbers = true;
        boolean isOfRows = true;
        for (var p : called.getParameters()) {
            String kind = p.asType().toString();
            kinds.add(kind.substring(kind.lastIndexOf('.') + 1));
            isOfNumbers &= kind.equals("int") || kind.equals("long");
            isOfRows &= kind.matches("(int|long|char|byte|short)(\\[\\])?");
        }
        String name = called.getSimpleName().toString();
        if (Set.of("Math", "Integer", "Long").contains(owner)) {
            return called.getModifiers().contains(Modifier.STATIC) && isOfNumbers && !kinds.isEmpty() && !name.endsWith("Exact")
                && called.getReturnType().getKind().isPrimitive();
        }
        if (owner.equals("Arrays")) {
            return Set.of("copyOf", "copyOfRange", "fill").contains(name) && isOfRows;
        }
        String whole = owner + "." + name + "(" + String.join(",", kinds) + ")";
        return CALLS.contains(owner.equals("List") ? "ArrayList" + whole.substring(4) : whole);
    }

    /** How many calls stand open below that one at most, with it; a circle is told, and ends there. */
    private int depthOf(Element method, Set<Element> open) {
        if (depths.containsKey(method)) {
            return depths.get(method);
        }
        if (!open.add(method)) {
            due(false, 8, trees.getTree(method), method + " calls itself");
            return 0;
        }
        int deepest = 0;
        for (Element called : calls.getOrDefault(method, Set.of())) {
            deepest = Math.max(deepest, depthOf(called, open));
        }
        open.remove(method);
        depths.put(method, deepest + 1);
        return deepest + 1;
    }

    // ---- 6: exceptions, and what is compared

    @Override
    public Void visitNewClass(NewClassTree tree, Void v) {
        Element made = here();
        String name = ((TypeElement) made.getEnclosingElement()).getQualifiedName().toString();
        boolean isThrown = getCurrentPath().getParentPath().getLeaf() instanceof ThrowTree;
        if (own.contains(made.getEnclosingElement())) {
            noteCall(made);
        } else if (EXCEPTIONS.contains(name) || name.endsWith("Exception")) {
            due(isThrown && EXCEPTIONS.contains(name), 6, tree, "the exception " + name);
        } else {
            boolean isText = name.equals("java.lang.String") && made.toString().equals("String(char[])");
            due(NEW.contains(name) || isText, 4, tree, "new " + name);
        }
        if (!isThrown) {
            dueNoLoop(tree);
        }
        return super.visitNewClass(tree, v);
    }

    @Override
    public Void visitThrow(ThrowTree tree, Void v) {
        ExpressionTree thrown = tree.getExpression();
        boolean isRight = thrown instanceof NewClassTree;
        if (isRight) {
            List<? extends ExpressionTree> words = ((NewClassTree) thrown).getArguments();
            isRight = words.isEmpty() || words.size() == 1 && words.get(0).getKind() == Tree.Kind.STRING_LITERAL;
        }
        due(isRight, 6, tree, "a throw of another form");
        MethodTree round = methodRound();
        due(round == null || !round.getName().contentEquals("<init>"), 6, tree, "a throw in a constructor");
        return super.visitThrow(tree, v);
    }

    @Override
    public Void visitTry(TryTree tree, Void v) {
        due(false, 6, tree, "a try, which this class needs not");
        return super.visitTry(tree, v);
    }

    @Override
    public Void visitAssert(AssertTree tree, Void v) {
        due(false, 6, tree, "an assert");
        return super.visitAssert(tree, v);
    }

    @Override
    public Void visitSynchronized(SynchronizedTree tree, Void v) {
        due(false, 6, tree, "a synchronized");
        return super.visitSynchronized(tree, v);
    }

    @Override
    public Void visitInstanceOf(InstanceOfTree tree, Void v) {
        due(isOwn(typeOf(tree.getExpression())), 6, tree, "an instanceof of another class");
        return super.visitInstanceOf(tree, v);
    }

    @Override
    public Void visitBinary(BinaryTree tree, Void v) {
        TypeMirror left = typeOf(tree.getLeftOperand());
        TypeMirror right = typeOf(tree.getRightOperand());
        boolean isComparison = tree.getKind() == Tree.Kind.EQUAL_TO || tree.getKind() == Tree.Kind.NOT_EQUAL_TO;
        boolean isOfNull = left.getKind() == TypeKind.NULL || right.getKind() == TypeKind.NULL;
        boolean isOfBoxes = left.getKind() == TypeKind.DECLARED && !isOwn(left) || right.getKind() == TypeKind.DECLARED && !isOwn(right);
        due(!isComparison || isOfNull || !isOfBoxes, 6, tree, tree.getKind() + " of " + left + " and " + right);
        due(tree.getKind() != Tree.Kind.PLUS || !isString(left) && !isString(right), 10, tree, "texts joined by +");
        return super.visitBinary(tree, v);
    }

    // ---- 5, 9, 10, 12: statements

    @Override
    public Void visitCompoundAssignment(CompoundAssignmentTree tree, Void v) {
        due(!isString(typeOf(tree.getVariable())), 10, tree, "texts joined by +=");
        dueNoConstant(tree.getVariable());
        return super.visitCompoundAssignment(tree, v);
    }

    @Override
    public Void visitAssignment(AssignmentTree tree, Void v) {
        dueNoConstant(tree.getVariable());
        return super.visitAssignment(tree, v);
    }

    @Override
    public Void visitUnary(UnaryTree tree, Void v) {
        if (EnumSet.of(Tree.Kind.POSTFIX_INCREMENT, Tree.Kind.POSTFIX_DECREMENT, Tree.Kind.PREFIX_INCREMENT,
            Tree.Kind.PREFIX_DECREMENT).contains(tree.getKind())) {
            dueNoConstant(tree.getExpression());
        }
        return super.visitUnary(tree, v);
    }

    /** That no element of a static row is written. */
    private void dueNoConstant(Tree target) {
        Tree t = bare(target);
        if (t instanceof ArrayAccessTree) {
            TreePath at = new TreePath(new TreePath(getCurrentPath(), t), ((ArrayAccessTree) t).getExpression());
            Element row = trees.getElement(at);
            due(row == null || !row.getModifiers().contains(Modifier.STATIC), 5, target, "a constant row is changed");
        }
    }

    @Override
    public Void visitWhileLoop(WhileLoopTree tree, Void v) {
        dueEnd(tree.getCondition(), tree);
        return super.visitWhileLoop(tree, v);
    }

    @Override
    public Void visitDoWhileLoop(DoWhileLoopTree tree, Void v) {
        dueEnd(tree.getCondition(), tree);
        return super.visitDoWhileLoop(tree, v);
    }

    @Override
    public Void visitForLoop(ForLoopTree tree, Void v) {
        due(tree.getCondition() != null, 9, tree, "a loop without an end");
        due(tree.getUpdate().size() == 1, 9, tree, "a loop whose counter does not go on in its head");
        if (tree.getCondition() != null) {
            dueEnd(tree.getCondition(), tree);
        }
        return super.visitForLoop(tree, v);
    }

    /** That the loop ends where a counter is compared with a bound, so one of what is tied by && is such a comparison. */
    private void dueEnd(Tree condition, Tree loop) {
        due(hasBound(condition), 9, loop, "a loop whose end is no comparison");
    }

    private static boolean hasBound(Tree condition) {
        Tree c = bare(condition);
        if (c.getKind() == Tree.Kind.CONDITIONAL_AND) {
            return hasBound(((BinaryTree) c).getLeftOperand()) || hasBound(((BinaryTree) c).getRightOperand());
        }
        return EnumSet.of(Tree.Kind.LESS_THAN, Tree.Kind.LESS_THAN_EQUAL, Tree.Kind.GREATER_THAN, Tree.Kind.GREATER_THAN_EQUAL)
            .contains(c.getKind());
    }

    @Override
    public Void visitSwitch(SwitchTree tree, Void v) {
        TypeMirror type = typeOf(bare(tree.getExpression()));
        boolean isEnum = type.getKind() == TypeKind.DECLARED && ((DeclaredType) type).asElement().getKind() == ElementKind.ENUM;
        due(isNumber(type) || isEnum, 10, tree, "a switch on " + type);
        return super.visitSwitch(tree, v);
    }

    @Override
    public Void visitLiteral(LiteralTree tree, Void v) {
        if (tree.getValue() instanceof String) {
            for (char c : ((String) tree.getValue()).toCharArray()) {
                due(c >= 1 && c <= 127, 4, tree, "a text with the sign " + (int) c);
            }
        } else if (tree.getValue() instanceof Character) {
            due((Character) tree.getValue() <= 255, 3, tree, "the sign " + (int) (Character) tree.getValue());
        }
        return super.visitLiteral(tree, v);
    }

    /** Only a constructor, whose loops have constant bounds, makes objects in a loop. */
    private void dueNoLoop(Tree tree) {
        boolean isLooped = isWithin(ForLoopTree.class, WhileLoopTree.class, DoWhileLoopTree.class, EnhancedForLoopTree.class);
        MethodTree round = methodRound();
        boolean isMaking = round != null && round.getName().contentEquals("<init>");
        due(!isLooped || isMaking, 12, tree, "objects made in a loop");
    }
}
