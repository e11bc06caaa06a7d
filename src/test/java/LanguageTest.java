import com.sun.source.tree.*;
import com.sun.source.util.JavacTask;
import com.sun.source.util.TreePath;
import com.sun.source.util.TreePathScanner;
import com.sun.source.util.TreeScanner;
import com.sun.source.util.Trees;
import java.io.IOException;
import java.nio.file.Path;
import java.util.ArrayDeque;
import java.util.Deque;
import java.util.HashSet;
import java.util.LinkedHashMap;
import java.util.List;
import java.util.Map;
import java.util.Set;
import java.util.TreeMap;
import java.util.TreeSet;
import java.util.regex.Pattern;
import javax.lang.model.element.Element;
import javax.lang.model.element.ElementKind;
import javax.lang.model.element.ExecutableElement;
import javax.lang.model.element.Modifier;
import javax.lang.model.element.TypeElement;
import javax.lang.model.type.ArrayType;
import javax.lang.model.type.TypeKind;
import javax.lang.model.type.TypeMirror;
import javax.tools.JavaCompiler;
import javax.tools.StandardJavaFileManager;
import javax.tools.ToolProvider;

/** LANGUAGE.md, rule by rule, as far as the program's tree tells it; where the program uses less than a rule leaves, it is held to that. */
public final class LanguageTest extends TreePathScanner<Void, Void> {
    private static final Set<String> LIBRARY = Set.of(
        "String.length()", "String.charAt(int)", "String.isEmpty()", "String.equals(Object)", "String.indexOf(char)", "String.substring(int)",
        "String.substring(int,int)", "String.toCharArray()", "StringBuilder.append(char)", "StringBuilder.append(String)",
        "StringBuilder.append(int)", "StringBuilder.charAt(int)", "StringBuilder.setCharAt(int,char)", "StringBuilder.setLength(int)",
        "StringBuilder.deleteCharAt(int)", "StringBuilder.reverse()", "StringBuilder.length()", "StringBuilder.toString()",
        "Integer.compare(int,int)", "Long.compare(long,long)", "Long.bitCount(long)", "Math.min(int,int)", "Math.max(int,int)",
        "Math.abs(int)", "Math.abs(long)");
    private static final Set<String> EXCEPTIONS = Set.of("IllegalStateException", "IllegalArgumentException", "IndexOutOfBoundsException",
        "ArithmeticException", "UnsupportedOperationException", "NoSuchElementException", "RuntimeException");
    private static final Set<Tree.Kind> BARRED = Set.of(
        Tree.Kind.LAMBDA_EXPRESSION, Tree.Kind.MEMBER_REFERENCE, Tree.Kind.TRY, Tree.Kind.SYNCHRONIZED, Tree.Kind.ASSERT, Tree.Kind.WHILE_LOOP,
        Tree.Kind.DO_WHILE_LOOP, Tree.Kind.ENHANCED_FOR_LOOP, Tree.Kind.TYPE_CAST, Tree.Kind.INSTANCE_OF, Tree.Kind.ANNOTATION,
        Tree.Kind.FLOAT_LITERAL, Tree.Kind.DOUBLE_LITERAL, Tree.Kind.SWITCH_EXPRESSION, Tree.Kind.YIELD, Tree.Kind.LABELED_STATEMENT);
    private static final Set<Tree.Kind> COMPARISONS = Set.of(Tree.Kind.LESS_THAN, Tree.Kind.GREATER_THAN, Tree.Kind.LESS_THAN_EQUAL,
        Tree.Kind.GREATER_THAN_EQUAL);

    private final Trees trees;
    private final CompilationUnitTree unit;
    private final Set<String> faceNames = new HashSet<>();
    private final Map<Element, Set<Element>> calls = new LinkedHashMap<>();
    private final Map<String, Integer> seen = new TreeMap<>();
    private int classes;
    private int wrong;

    private LanguageTest(Trees trees, CompilationUnitTree unit) {
        this.trees = trees;
        this.unit = unit;
    }

    private void hold(int rule, boolean isSo, String what, Tree at) {
        seen.merge("rule " + rule, 1, Integer::sum);
        if (isSo) return;
        wrong++;
        long line = unit.getLineMap().getLineNumber(trees.getSourcePositions().getStartPosition(unit, at));
        System.out.println("rule " + rule + ", line " + line + ": " + what);
    }

    private Element element(Tree tree) { return trees.getElement(new TreePath(getCurrentPath(), tree)); }

    private TypeMirror type(Tree tree) { return trees.getTypeMirror(new TreePath(getCurrentPath(), tree)); }

    private static boolean is(TypeMirror type, String name) { return type != null && type.toString().equals(name); }

    private static boolean isOwn(TypeMirror type) { return type != null && type.toString().matches("Commadesk(\\..+)?"); }

    private static boolean isNumber(TypeMirror type) { return type.getKind().isPrimitive(); }

    private Element enclosing(ElementKind... kinds) {
        for (TreePath at = getCurrentPath(); at != null; at = at.getParentPath()) {
            Element it = at.getLeaf() instanceof MethodTree || at.getLeaf() instanceof ClassTree ? trees.getElement(at) : null;
            if (it != null && Set.of(kinds).contains(it.getKind())) return it;
        }
        return null;
    }

    private Tree enclosingMethod() {
        for (TreePath at = getCurrentPath(); at != null; at = at.getParentPath()) {
            if (at.getLeaf() instanceof MethodTree) return at.getLeaf();
        }
        return unit;
    }

    // ---- rules 1, 2, 5, 11: classes and their members

    private void checkUnit() throws IOException {
        for (String line : unit.getSourceFile().getCharContent(false).toString().split("\n")) {
            hold(11, line.length() <= 120, "a line that is too wide: " + line, unit);
        }
        hold(1, unit.getPackage() == null && unit.getImports().isEmpty() && unit.getTypeDecls().size() == 1, "no package, no import, one class", unit);
        ClassTree face = (ClassTree) unit.getTypeDecls().get(0);
        hold(1, face.getModifiers().getFlags().equals(Set.of(Modifier.PUBLIC, Modifier.FINAL)), "public and final", face);
        for (Tree member : face.getMembers()) {
            if (member instanceof MethodTree && ((MethodTree) member).getModifiers().getFlags().contains(Modifier.PUBLIC)) {
                faceNames.add(((MethodTree) member).getName().toString());
            }
        }
        scan(unit, null);
        hold(11, classes <= 12, "some twelve classes, not " + classes, face);
    }

    @Override
    public Void visitClass(ClassTree tree, Void none) {
        classes++;
        TypeElement it = (TypeElement) trees.getElement(getCurrentPath());
        boolean isFace = it.getSimpleName().contentEquals("Commadesk");
        hold(2, tree.getKind() == Tree.Kind.CLASS && getCurrentPath().getParentPath().getLeaf().getKind() != Tree.Kind.BLOCK, "a plain class", tree);
        Set<Modifier> flags = tree.getModifiers().getFlags();
        hold(1, isFace || (flags.contains(Modifier.STATIC) && !flags.contains(Modifier.PUBLIC) && !flags.contains(Modifier.PROTECTED)),
            "classes inside are static, and private or of the package", tree);
        int own = 0;
        for (Tree member : tree.getMembers()) {
            hold(5, member.getKind() != Tree.Kind.BLOCK, "no initialiser block", member);
            if (member instanceof VariableTree && !((VariableTree) member).getModifiers().getFlags().contains(Modifier.STATIC)) own++;
        }
        hold(11, own <= 20, "some twenty fields, not " + own, tree);
        return super.visitClass(tree, none);
    }

    @Override
    public Void visitMethod(MethodTree tree, Void none) {
        ExecutableElement it = (ExecutableElement) trees.getElement(getCurrentPath());
        calls.putIfAbsent(it, new HashSet<>());
        Set<Modifier> flags = tree.getModifiers().getFlags();
        boolean isInFace = it.getEnclosingElement().getSimpleName().contentEquals("Commadesk");
        boolean isShown = flags.contains(Modifier.PUBLIC);
        hold(1, isInFace ? isShown || flags.contains(Modifier.PRIVATE) : !isShown && !flags.contains(Modifier.PROTECTED), "not to be seen", tree);
        hold(1, isShown || it.getKind() == ElementKind.CONSTRUCTOR || !faceNames.contains(it.getSimpleName().toString()),
            "a public method's name: " + it.getSimpleName(), tree);
        hold(11, tree.getParameters().size() <= 7, "at most seven parameters", tree);
        hold(11, linesOf(tree) <= 60, "some sixty lines, not " + linesOf(tree), tree);
        hold(2, tree.getTypeParameters().isEmpty() && !flags.contains(Modifier.NATIVE), "a plain method", tree);
        if (tree.getReturnType() != null) hold(3, isAllowed(it.getReturnType()), "the type " + it.getReturnType(), tree);
        return super.visitMethod(tree, none);
    }

    private long linesOf(Tree tree) {
        long from = trees.getSourcePositions().getStartPosition(unit, tree), to = trees.getSourcePositions().getEndPosition(unit, tree);
        return from < 0 || to < 0 ? 0 : unit.getLineMap().getLineNumber(to) - unit.getLineMap().getLineNumber(from) + 1;
    }

    // ---- rules 3 and 4: types and the library

    private static boolean isAllowed(TypeMirror type) {
        if (type.getKind() == TypeKind.FLOAT || type.getKind() == TypeKind.DOUBLE) return false;
        if (isNumber(type) || type.getKind() == TypeKind.VOID || isOwn(type)) return true;
        if (type.getKind() == TypeKind.ARRAY) {
            TypeMirror of = ((ArrayType) type).getComponentType();
            return isNumber(of) || isOwn(of);
        }
        return is(type, "java.lang.String") || is(type, "java.lang.StringBuilder");
    }

    @Override
    public Void visitVariable(VariableTree tree, Void none) {
        Element it = trees.getElement(getCurrentPath());
        hold(3, isAllowed(it.asType()), "the type " + it.asType(), tree);
        if (it.getModifiers().contains(Modifier.STATIC)) {
            boolean isConstant = it.getModifiers().contains(Modifier.FINAL) && tree.getInitializer() != null
                && (isNumber(it.asType()) || is(it.asType(), "java.lang.String"));
            hold(5, isConstant, "a static field is a constant", tree);
        }
        if (it.getKind() == ElementKind.FIELD && it.getEnclosingElement().getSimpleName().contentEquals("Commadesk")) {
            hold(1, it.getModifiers().contains(Modifier.PRIVATE), "a field that can be seen: " + it, tree);
        }
        return super.visitVariable(tree, none);
    }

    @Override
    public Void visitMethodInvocation(MethodInvocationTree tree, Void none) {
        ExecutableElement it = (ExecutableElement) element(tree.getMethodSelect());
        TypeElement owner = (TypeElement) it.getEnclosingElement();
        Element caller = enclosing(ElementKind.METHOD, ElementKind.CONSTRUCTOR);
        if (isOwn(owner.asType())) {
            if (caller != null) calls.computeIfAbsent(caller, key -> new HashSet<>()).add(it);
            if (caller != null && caller.getKind() == ElementKind.CONSTRUCTOR && it.getKind() == ElementKind.METHOD) {
                hold(12, it.getModifiers().contains(Modifier.STATIC), "a constructor calls only what can not be overridden", tree);
            }
        } else if (it.getKind() == ElementKind.METHOD) {
            hold(4, LIBRARY.contains(calledAs(it, owner, tree)), "the library's " + calledAs(it, owner, tree), tree);
        }
        return super.visitMethodInvocation(tree, none);
    }

    /** The library's method, by the types that it takes; indexOf takes an int, but LANGUAGE.md leaves it for chars alone. */
    private String calledAs(ExecutableElement it, TypeElement owner, MethodInvocationTree tree) {
        StringBuilder out = new StringBuilder(owner.getSimpleName().toString().replace("Abstract", "") + "." + it.getSimpleName() + "(");
        for (int i = 0; i < it.getParameters().size(); i++) {
            TypeMirror taken = it.getParameters().get(i).asType();
            String name = it.getSimpleName().contentEquals("indexOf") ? type(tree.getArguments().get(i)).toString() : taken.toString();
            out.append(i > 0 ? "," : "").append(name.replace("java.lang.", ""));
        }
        return out.append(")").toString();
    }

    @Override
    public Void visitMemberSelect(MemberSelectTree tree, Void none) {
        Element it = trees.getElement(getCurrentPath());
        if (it != null && it.getKind() == ElementKind.FIELD) {
            boolean isLength = tree.getIdentifier().contentEquals("length") && type(tree.getExpression()).getKind() == TypeKind.ARRAY;
            hold(4, isLength || isOwn(it.getEnclosingElement().asType()), "the library's constant " + tree, tree);
        }
        return super.visitMemberSelect(tree, none);
    }

    @Override
    public Void visitNewClass(NewClassTree tree, Void none) {
        boolean isThrown = getCurrentPath().getParentPath().getLeaf().getKind() == Tree.Kind.THROW;
        hold(4, isThrown || isOwn(type(tree)) || is(type(tree), "java.lang.StringBuilder"), "new " + type(tree), tree);
        hold(2, tree.getClassBody() == null, "an anonymous class", tree);
        Element caller = enclosing(ElementKind.METHOD, ElementKind.CONSTRUCTOR);
        Element made = element(tree);
        if (caller != null && made != null && isOwn(type(tree))) calls.computeIfAbsent(caller, key -> new HashSet<>()).add(made);
        return super.visitNewClass(tree, none);
    }

    @Override
    public Void visitNewArray(NewArrayTree tree, Void none) {
        hold(3, tree.getDimensions().size() == 1 && tree.getInitializers() == null, "an array of one dimension", tree);
        return super.visitNewArray(tree, none);
    }

    @Override
    public Void visitLiteral(LiteralTree tree, Void none) {
        if (tree.getValue() instanceof String) {
            String text = (String) tree.getValue();
            hold(4, text.chars().allMatch(c -> c >= 1 && c <= 127), "signs 1 to 127 in a constant", tree);
        }
        if (tree.getValue() instanceof Character) hold(3, (Character) tree.getValue() <= 255, "a sign above 255", tree);
        return super.visitLiteral(tree, none);
    }

    // ---- rule 6: exceptions

    @Override
    public Void visitThrow(ThrowTree tree, Void none) {
        boolean isWritten = false;
        if (tree.getExpression() instanceof NewClassTree) {
            NewClassTree made = (NewClassTree) tree.getExpression();
            boolean isText = made.getArguments().isEmpty()
                || (made.getArguments().size() == 1 && made.getArguments().get(0).getKind() == Tree.Kind.STRING_LITERAL);
            isWritten = isText && EXCEPTIONS.contains(made.getIdentifier().toString());
        }
        hold(6, isWritten, "throw new E(\"a written text\")", tree);
        Element caller = enclosing(ElementKind.METHOD, ElementKind.CONSTRUCTOR);
        hold(6, caller != null && caller.getKind() == ElementKind.METHOD, "no throw in a constructor", tree);
        return super.visitThrow(tree, none);
    }

    // ---- rule 7: what is looked at before it is used

    /** Whether a name stands in a comparison anywhere in the method. */
    private boolean isLookedAt(String name) {
        String method = enclosingMethod().toString();
        String word = "(?<![\\w.])" + Pattern.quote(name) + "(?!\\w)";
        return Pattern.compile(word + "\\s*([-+] \\w+\\s*)?[<>]|[<>]=?\\s*" + word).matcher(method).find();
    }

    @Override
    public Void visitArrayAccess(ArrayAccessTree tree, Void none) {
        Set<String> names = new TreeSet<>();
        new TreeScanner<Void, Void>() {
            @Override
            public Void visitIdentifier(IdentifierTree id, Void p) {
                if (!id.getName().toString().matches("[A-Z_]+")) names.add(id.getName().toString());
                return null;
            }

            @Override
            public Void visitArrayAccess(ArrayAccessTree inner, Void p) { return null; }
        }.scan(tree.getIndex(), null);
        for (String name : names) hold(7, isLookedAt(name), "the index " + name + " is looked at in its method", tree);
        return super.visitArrayAccess(tree, none);
    }

    private void checkDivisor(Tree divisor, Tree at) {
        boolean isConstant = divisor.getKind() == Tree.Kind.INT_LITERAL || divisor.getKind() == Tree.Kind.LONG_LITERAL
            ? ((Number) ((LiteralTree) divisor).getValue()).longValue() != 0 : divisor.toString().matches("[A-Z_]+");
        hold(7, isConstant || isLookedAt(divisor.toString()), "the divisor " + divisor + " is looked at in its method", at);
    }

    @Override
    public Void visitBinary(BinaryTree tree, Void none) {
        TypeMirror left = type(tree.getLeftOperand()), right = type(tree.getRightOperand());
        if (tree.getKind() == Tree.Kind.DIVIDE || tree.getKind() == Tree.Kind.REMAINDER) checkDivisor(tree.getRightOperand(), tree);
        if (tree.getKind() == Tree.Kind.PLUS) hold(10, isNumber(left) && isNumber(right), "texts are not joined by +", tree);
        if (tree.getKind() == Tree.Kind.EQUAL_TO || tree.getKind() == Tree.Kind.NOT_EQUAL_TO) {
            hold(6, !is(left, "java.lang.String") && !is(right, "java.lang.String"), "texts are not compared by ==", tree);
        }
        return super.visitBinary(tree, none);
    }

    @Override
    public Void visitCompoundAssignment(CompoundAssignmentTree tree, Void none) {
        hold(10, isNumber(type(tree.getVariable())), "texts are not joined by +=", tree);
        if (tree.getKind() == Tree.Kind.DIVIDE_ASSIGNMENT || tree.getKind() == Tree.Kind.REMAINDER_ASSIGNMENT) {
            checkDivisor(tree.getExpression(), tree);
        }
        return super.visitCompoundAssignment(tree, none);
    }

    // ---- rules 2, 6, 9, 10: statements

    @Override
    public Void scan(Tree tree, Void none) {
        if (tree != null) hold(2, !BARRED.contains(tree.getKind()) || isCharCast(tree), "what the program does without: " + tree.getKind(), tree);
        return super.scan(tree, none);
    }

    private static boolean isCharCast(Tree tree) {
        return tree instanceof TypeCastTree && List.of("char", "int").contains(((TypeCastTree) tree).getType().toString());
    }

    @Override
    public Void visitForLoop(ForLoopTree tree, Void none) {
        boolean isOne = tree.getInitializer().size() == 1 && tree.getInitializer().get(0) instanceof VariableTree && tree.getUpdate().size() == 1;
        hold(9, isOne, "a loop counts one variable", tree);
        if (!isOne) return super.visitForLoop(tree, none);
        String counter = ((VariableTree) tree.getInitializer().get(0)).getName().toString();
        String update = tree.getUpdate().get(0).toString().replace(";", "");
        hold(9, update.equals(counter + "++") || update.equals(counter + "--"), "a loop counts by one: " + update, tree);
        hold(9, tree.getCondition() != null && isBounded(tree.getCondition(), counter), "a loop has a bound", tree);
        boolean isMoved = Pattern.compile("(?<![\\w.])" + counter + "( [-+*/]?= |\\+\\+|--)").matcher(tree.getStatement().toString()).find();
        hold(9, !isMoved, "a loop's counter is left alone", tree);
        return super.visitForLoop(tree, none);
    }

    /** One of the parts that all have to hold compares the counter itself. */
    private static boolean isBounded(ExpressionTree condition, String counter) {
        if (condition instanceof ParenthesizedTree) return isBounded(((ParenthesizedTree) condition).getExpression(), counter);
        if (!(condition instanceof BinaryTree)) return false;
        BinaryTree two = (BinaryTree) condition;
        if (two.getKind() == Tree.Kind.CONDITIONAL_AND) return isBounded(two.getLeftOperand(), counter) || isBounded(two.getRightOperand(), counter);
        return COMPARISONS.contains(two.getKind()) && two.getLeftOperand().toString().matches(counter + "( [-+] .*)?");
    }

    // ---- rules 8 and 11: calls

    private static String told(Element it) { return it.getEnclosingElement().getSimpleName() + "." + it; }

    /** A call may run every method that overrides the one that is named. */
    private Set<Element> targets(Element called) {
        Set<Element> all = new HashSet<>();
        for (Element it : calls.keySet()) {
            boolean isSame = it.equals(called);
            boolean isLike = called.getKind() == ElementKind.METHOD && it.toString().equals(called.toString())
                && !called.getModifiers().contains(Modifier.STATIC) && extendsClass((TypeElement) it.getEnclosingElement(), called.getEnclosingElement());
            if (isSame || isLike) all.add(it);
        }
        return all;
    }

    private static boolean extendsClass(TypeElement it, Element other) { return it.getSuperclass().toString().equals(other.asType().toString()); }

    private int depth(Element it, Deque<Element> open) {
        hold(8, !open.contains(it), "a recursion: " + told(it), unit);
        if (open.contains(it)) return 0;
        open.push(it);
        int deepest = 0;
        for (Element called : calls.getOrDefault(it, Set.of())) {
            for (Element target : targets(called)) deepest = Math.max(deepest, depth(target, open));
        }
        open.pop();
        return deepest + 1;
    }

    private void checkCalls() {
        int deepest = 0;
        for (Element it : calls.keySet()) deepest = Math.max(deepest, depth(it, new ArrayDeque<>()));
        hold(11, deepest <= 8, "calls go at most eight deep, not " + deepest, unit);
        for (Element it : calls.keySet()) {
            boolean isCalled = it.getModifiers().contains(Modifier.PUBLIC) || it.getKind() == ElementKind.CONSTRUCTOR
                || calls.values().stream().flatMap(Set::stream).anyMatch(called -> targets(called).contains(it));
            hold(11, isCalled, "nobody calls " + told(it), unit);
        }
        System.out.println("calls go " + deepest + " deep");
    }

    public static void main(String[] args) throws Exception {
        Path source = Path.of(args.length > 0 ? args[0] : System.getProperty("project.root", ".") + "/src/main/java/Commadesk.java");
        JavaCompiler compiler = ToolProvider.getSystemJavaCompiler();
        try (StandardJavaFileManager files = compiler.getStandardFileManager(null, null, null)) {
            JavacTask task = (JavacTask) compiler.getTask(null, files, null, List.of("-proc:none"), null, files.getJavaFileObjects(source));
            CompilationUnitTree unit = task.parse().iterator().next();
            task.analyze();
            LanguageTest test = new LanguageTest(Trees.instance(task), unit);
            test.checkUnit();
            test.checkCalls();
            if (test.wrong != 0) System.exit(1);
            System.out.println("the source keeps to the language: looked at " + test.seen);
        }
    }
}
