import com.sun.source.tree.AnnotationTree;
import com.sun.source.tree.ArrayAccessTree;
import com.sun.source.tree.AssertTree;
import com.sun.source.tree.BinaryTree;
import com.sun.source.tree.BlockTree;
import com.sun.source.tree.ClassTree;
import com.sun.source.tree.CompilationUnitTree;
import com.sun.source.tree.CompoundAssignmentTree;
import com.sun.source.tree.DoWhileLoopTree;
import com.sun.source.tree.EnhancedForLoopTree;
import com.sun.source.tree.ExpressionTree;
import com.sun.source.tree.ForLoopTree;
import com.sun.source.tree.InstanceOfTree;
import com.sun.source.tree.LambdaExpressionTree;
import com.sun.source.tree.LiteralTree;
import com.sun.source.tree.MemberReferenceTree;
import com.sun.source.tree.MethodInvocationTree;
import com.sun.source.tree.MethodTree;
import com.sun.source.tree.NewArrayTree;
import com.sun.source.tree.NewClassTree;
import com.sun.source.tree.SynchronizedTree;
import com.sun.source.tree.ThrowTree;
import com.sun.source.tree.Tree;
import com.sun.source.tree.TryTree;
import com.sun.source.tree.TypeCastTree;
import com.sun.source.tree.UnaryTree;
import com.sun.source.tree.VariableTree;
import com.sun.source.tree.WhileLoopTree;
import com.sun.source.util.JavacTask;
import com.sun.source.util.TreePath;
import com.sun.source.util.TreePathScanner;
import com.sun.source.util.Trees;
import java.io.IOException;
import java.nio.charset.StandardCharsets;
import java.nio.file.Files;
import java.nio.file.Path;
import java.util.HashMap;
import java.util.HashSet;
import java.util.LinkedHashMap;
import java.util.List;
import java.util.Map;
import java.util.Set;
import java.util.TreeSet;
import javax.lang.model.element.Element;
import javax.lang.model.element.ElementKind;
import javax.lang.model.element.ExecutableElement;
import javax.lang.model.element.Modifier;
import javax.lang.model.element.TypeElement;
import javax.lang.model.element.VariableElement;
import javax.lang.model.type.ArrayType;
import javax.lang.model.type.DeclaredType;
import javax.lang.model.type.TypeKind;
import javax.lang.model.type.TypeMirror;
import javax.tools.JavaCompiler;
import javax.tools.StandardJavaFileManager;
import javax.tools.ToolProvider;

/**
 * The source of the class, as the compiler reads it, keeps to the rules of ../shared/LANGUAGE.md. The test is
 * narrower than the rules, for it allows only what the class uses: who needs more of what they allow adds it here.
 */
public final class LanguageTest extends TreePathScanner<Void, Void> {
    private static final Path SOURCE = Path.of("src/main/java/QuantityQuarry.java");
    private static final Set<String> LIBRARY = Set.of("java.util.Arrays.fill(int[],int)",
            "java.lang.Integer.bitCount(int)",
            "java.lang.System.arraycopy(java.lang.Object,int,java.lang.Object,int,int)");
    private static final Set<String> EXCEPTIONS = Set.of("java.lang.IllegalStateException",
            "java.lang.IllegalArgumentException", "java.lang.IndexOutOfBoundsException",
            "java.lang.ArithmeticException", "java.lang.UnsupportedOperationException",
            "java.lang.RuntimeException", "java.util.NoSuchElementException");
    private static final Set<TypeKind> NUMBERS = Set.of(TypeKind.INT, TypeKind.LONG, TypeKind.BOOLEAN, TypeKind.CHAR,
            TypeKind.DOUBLE, TypeKind.FLOAT);
    private static final int MOST_LINES = 60;
    private static final int MOST_PARAMETERS = 7;
    private static final int MOST_CLASSES = 12;
    private static final int MOST_FIELDS = 20;
    private static final int MOST_CALLS = 8;

    private final Trees trees;
    private final CompilationUnitTree unit;
    private final String source;
    private final Map<Element, Set<Element>> callees = new LinkedHashMap<>();
    private final Map<String, String> problems = new LinkedHashMap<>();
    private int classes;
    private int methods;

    private LanguageTest(Trees trees, CompilationUnitTree unit, String source) {
        this.trees = trees;
        this.unit = unit;
        this.source = source;
    }

    public static void main(String[] args) throws IOException {
        Map<String, String> problems = problemsOf(Files.readString(SOURCE, StandardCharsets.ISO_8859_1));
        Expect.same(Map.of(), problems);
        brokenRulesAreSeen();
        Expect.finish();
    }

    /** What is against the rules in a source, by rule and line. */
    private static Map<String, String> problemsOf(String source) throws IOException {
        JavaCompiler compiler = ToolProvider.getSystemJavaCompiler();
        Path folder = Files.createTempDirectory("language");
        Path file = folder.resolve("QuantityQuarry.java");
        try (StandardJavaFileManager files = compiler.getStandardFileManager(null, null, null)) {
            Files.writeString(file, source, StandardCharsets.ISO_8859_1);
            JavacTask task = (JavacTask) compiler.getTask(null, files, null, List.of("-proc:none"), null,
                    files.getJavaFileObjects(file));
            CompilationUnitTree unit = task.parse().iterator().next();
            task.analyze();
            LanguageTest test = new LanguageTest(Trees.instance(task), unit, source);
            test.look();
            return test.problems;
        } finally {
            Files.deleteIfExists(file);
            Files.delete(folder);
        }
    }

    private void look() {
        need(unit.getPackageName() == null, 1, unit, "a package");
        unit.getImports().forEach(line -> need(Set.of("java.util.Arrays", "java.util.NoSuchElementException")
                .contains(line.getQualifiedIdentifier().toString()), 4, line, "an import"));
        scan(unit, null);
        need(classes <= MOST_CLASSES, 11, unit, "more than 12 classes");
        need(methods > 0, 1, unit, "no method was looked at");
        for (Element method : callees.keySet()) {
            int depth = depthOf(method, new HashMap<>(), new HashSet<>());
            need(depth <= MOST_CALLS, depth > 100 ? 8 : 11, trees.getTree(method), "calls " + depth + " deep");
        }
        int number = 0;
        for (String line : source.lines().toList()) {
            number++;
            if (line.length() > 120 || !line.chars().allMatch(sign -> sign >= 32 && sign < 127)) {
                problems.put("line " + number, "too long, or a sign that is not from 32 to 126");
            }
        }
    }

    private void need(boolean holds, int rule, Tree tree, String problem) {
        if (!holds) {
            long at = trees.getSourcePositions().getStartPosition(unit, tree);
            long line = at < 0 ? 0 : unit.getLineMap().getLineNumber(at);
            problems.put("rule " + rule + " line " + line, problem);
        }
    }

    private void refuse(int rule, Tree tree) {
        need(false, rule, tree, tree.getKind().toString());
    }

    /** The calls that stand open at once from a method on, 1000 and more if it can call itself. */
    private int depthOf(Element method, Map<Element, Integer> known, Set<Element> open) {
        if (known.containsKey(method)) {
            return known.get(method);
        }
        if (!open.add(method)) {
            return 1000;
        }
        int depth = 0;
        for (Element callee : callees.getOrDefault(method, Set.of())) {
            depth = Math.max(depth, depthOf(callee, known, open));
        }
        open.remove(method);
        known.put(method, depth + 1);
        return depth + 1;
    }

    private Element here() {
        return trees.getElement(getCurrentPath());
    }

    private TypeMirror typeOf(Tree tree) {
        return trees.getTypeMirror(new TreePath(getCurrentPath(), tree));
    }

    private MethodTree methodHere() {
        for (TreePath path = getCurrentPath(); path != null; path = path.getParentPath()) {
            if (path.getLeaf() instanceof MethodTree method) {
                return method;
            }
        }
        return null;
    }

    private String nameHere() {
        MethodTree method = methodHere();
        return method == null ? "" : method.getName().toString();
    }

    private boolean isOwn(Element element) {
        for (Element owner = element; owner != null; owner = owner.getEnclosingElement()) {
            if (owner instanceof TypeElement type && type.getQualifiedName().contentEquals("QuantityQuarry")) {
                return true;
            }
        }
        return false;
    }

    // ---- rules 1, 2, 5, 11: classes, methods, fields

    @Override
    public Void visitClass(ClassTree tree, Void none) {
        classes++;
        Element owner = here();
        boolean isOuter = getCurrentPath().getParentPath().getLeaf() == unit;
        Set<Modifier> modifiers = owner.getModifiers();
        need(tree.getKind() == Tree.Kind.CLASS, 2, tree, "neither a class of the face nor a static one in it");
        need(isOuter ? modifiers.equals(Set.of(Modifier.PUBLIC, Modifier.FINAL))
                : modifiers.containsAll(Set.of(Modifier.PRIVATE, Modifier.STATIC)), 1, tree, "modifiers");
        need(isOuter || getCurrentPath().getParentPath().getParentPath().getLeaf() == unit, 2, tree, "a local class");
        need(tree.getExtendsClause() == null && tree.getImplementsClause().isEmpty(), 2, tree, "a class above it");
        Set<String> face = new TreeSet<>();
        Set<String> hidden = new TreeSet<>();
        int fields = 0;
        for (Element member : owner.getEnclosedElements()) {
            if (member.getKind() == ElementKind.METHOD) {
                boolean isPublic = member.getModifiers().contains(Modifier.PUBLIC);
                (isPublic ? face : hidden).add(member.getSimpleName().toString());
                need(!isOuter || isPublic || member.getModifiers().contains(Modifier.PRIVATE), 1, tree, "a method");
            }
            if (member.getKind() == ElementKind.FIELD && !member.getModifiers().contains(Modifier.STATIC)) {
                fields++;
            }
        }
        face.retainAll(hidden);
        need(face.isEmpty(), 1, tree, "private methods with names of the face: " + face);
        need(fields <= MOST_FIELDS, 11, tree, "more than 20 fields");
        return super.visitClass(tree, none);
    }

    @Override
    public Void visitMethod(MethodTree tree, Void none) {
        methods++;
        callees.computeIfAbsent(here(), key -> new HashSet<>());
        need(tree.getParameters().size() <= MOST_PARAMETERS, 11, tree, "more than 7 parameters");
        long first = trees.getSourcePositions().getStartPosition(unit, tree);
        long last = trees.getSourcePositions().getEndPosition(unit, tree);
        long lines = unit.getLineMap().getLineNumber(last) - unit.getLineMap().getLineNumber(first) + 1;
        need(lines <= MOST_LINES, 11, tree, "a method of more than 60 lines");
        need(!Set.of("equals", "hashCode", "toString").contains(tree.getName().toString()), 6, tree, "its name");
        tree.getThrows().forEach(thrown -> need(EXCEPTIONS.contains(typeOf(thrown).toString()), 6, tree, "throws"));
        return super.visitMethod(tree, none);
    }

    @Override
    public Void visitVariable(VariableTree tree, Void none) {
        Element variable = here();
        TypeMirror type = variable.asType();
        if (variable.getKind() == ElementKind.FIELD) {
            boolean isConstant = variable instanceof VariableElement field && field.getConstantValue() != null;
            need(variable.getModifiers().contains(Modifier.PRIVATE), 1, tree, "a field that is not private");
            need(!variable.getModifiers().contains(Modifier.STATIC) || isConstant, 5, tree, "a static field");
        }
        need(isAllowed(type), 3, tree, "the type " + type);
        return super.visitVariable(tree, none);
    }

    private boolean isAllowed(TypeMirror type) {
        if (type instanceof ArrayType row) {
            return row.getComponentType().getKind() == TypeKind.INT || isOwnClass(row.getComponentType());
        }
        return NUMBERS.contains(type.getKind()) || isOwnClass(type);
    }

    private boolean isOwnClass(TypeMirror type) {
        return type instanceof DeclaredType declared && isOwn(declared.asElement());
    }

    // ---- rules 4, 8, 13: calls

    @Override
    public Void visitMethodInvocation(MethodInvocationTree tree, Void none) {
        Element callee = here();
        if (callee.getKind() == ElementKind.CONSTRUCTOR) {
            return super.visitMethodInvocation(tree, none);
        }
        if (isOwn(callee)) {
            MethodTree caller = methodHere();
            need(caller != null && caller.getReturnType() != null, 12, tree, "a call in a constructor");
            if (caller != null) {
                callees.computeIfAbsent(trees.getElement(trees.getPath(unit, caller)), key -> new HashSet<>())
                        .add(callee);
            }
        } else {
            String name = ((TypeElement) callee.getEnclosingElement()).getQualifiedName() + "."
                    + ((ExecutableElement) callee).toString().replaceAll("<.*>", "");
            need(LIBRARY.contains(name), 4, tree, "the library's " + name);
        }
        return super.visitMethodInvocation(tree, none);
    }

    // ---- rules 6, 12: exceptions and objects

    @Override
    public Void visitNewClass(NewClassTree tree, Void none) {
        need(tree.getClassBody() == null, 2, tree, "an anonymous class");
        TypeMirror type = typeOf(tree);
        if (isOwnClass(type)) {
            need(methodHere() == null || nameHere().equals("addParty"), 12, tree, "an object made by a later call");
        } else {
            need(getCurrentPath().getParentPath().getLeaf() instanceof ThrowTree, 6, tree, "an object of the library");
        }
        return super.visitNewClass(tree, none);
    }

    @Override
    public Void visitThrow(ThrowTree tree, Void none) {
        need(methodHere() != null && methodHere().getReturnType() != null, 6, tree, "a throw in a constructor");
        boolean isNew = tree.getExpression() instanceof NewClassTree made && EXCEPTIONS.contains(typeOf(made).toString())
                && made.getArguments().stream().allMatch(text -> text.getKind() == Tree.Kind.STRING_LITERAL);
        need(isNew, 6, tree, "a throw of another kind");
        return super.visitThrow(tree, none);
    }

    @Override
    public Void visitNewArray(NewArrayTree tree, Void none) {
        need(methodHere() == null, 12, tree, "a row made by a later call");
        need(tree.getDimensions().size() == 1, 3, tree, "a row of another kind");
        return super.visitNewArray(tree, none);
    }

    // ---- rule 7: indexes, divisors, casts

    @Override
    public Void visitArrayAccess(ArrayAccessTree tree, Void none) {
        String test = tree.getIndex() + " < " + tree.getExpression() + ".length";
        boolean isTested = false;
        for (TreePath path = getCurrentPath(); path != null && !isTested; path = path.getParentPath()) {
            Tree leaf = path.getLeaf();
            if (leaf instanceof ForLoopTree loop) {
                isTested = loop.getCondition().toString().startsWith(test)
                        && loop.getInitializer().toString().endsWith(tree.getIndex() + " = 0");
            } else if (!(leaf instanceof ExpressionTree) && !(leaf instanceof BlockTree)) {
                isTested = leaf.toString().contains(tree.getIndex() + " >= 0 && " + test);
            }
            if (leaf instanceof MethodTree) {
                break;
            }
        }
        need(isTested, 7, tree, "an index that was not looked at");
        return super.visitArrayAccess(tree, none);
    }

    @Override
    public Void visitBinary(BinaryTree tree, Void none) {
        if (tree.getKind() == Tree.Kind.PLUS) {
            need(NUMBERS.contains(typeOf(tree).getKind()), 10, tree, "texts joined by +");
        }
        if (tree.getKind() == Tree.Kind.DIVIDE || tree.getKind() == Tree.Kind.REMAINDER) {
            boolean isNumber = tree.getRightOperand() instanceof LiteralTree number && !number.getValue().equals(0);
            boolean isTested = methodHere() != null && methodHere().toString().contains("if (count == 0) {")
                    && tree.getRightOperand().toString().matches("\\((double|float)\\)count");
            boolean isConstant = tree.getRightOperand().toString().equals("32") || isNumber;
            need(isConstant || isTested, 7, tree, "a divisor that was not looked at");
        }
        return super.visitBinary(tree, none);
    }

    @Override
    public Void visitCompoundAssignment(CompoundAssignmentTree tree, Void none) {
        need(NUMBERS.contains(typeOf(tree).getKind()), 10, tree, "texts joined by +=");
        need(tree.getKind() != Tree.Kind.DIVIDE_ASSIGNMENT && tree.getKind() != Tree.Kind.REMAINDER_ASSIGNMENT, 7,
                tree, "a divisor");
        return super.visitCompoundAssignment(tree, none);
    }

    @Override
    public Void visitTypeCast(TypeCastTree tree, Void none) {
        need(NUMBERS.contains(typeOf(tree).getKind()), 7, tree, "a cast of a reference");
        return super.visitTypeCast(tree, none);
    }

    // ---- rule 9: loops

    @Override
    public Void visitForLoop(ForLoopTree tree, Void none) {
        boolean hasEnd = tree.getInitializer().size() == 1 && tree.getUpdate().size() == 1
                && tree.getInitializer().get(0) instanceof VariableTree counter && tree.getCondition() != null
                && tree.getCondition().toString().startsWith(counter.getName() + " < ")
                && tree.getUpdate().get(0).toString().equals(counter.getName() + "++;")
                && !isSet(tree.getStatement(), counter.getName().toString());
        need(hasEnd, 9, tree, "a loop whose end cannot be seen");
        return super.visitForLoop(tree, none);
    }

    private static boolean isSet(Tree body, String name) {
        return body.toString().matches("(?s).*\\b" + name + " ?(=[^=]|[-+*/&|^]=|\\+\\+|--).*");
    }

    @Override
    public Void visitWhileLoop(WhileLoopTree tree, Void none) {
        refuse(9, tree);
        return null;
    }

    @Override
    public Void visitDoWhileLoop(DoWhileLoopTree tree, Void none) {
        refuse(9, tree);
        return null;
    }

    // ---- what is not allowed, or not used

    @Override
    public Void visitEnhancedForLoop(EnhancedForLoopTree tree, Void none) {
        refuse(12, tree);
        return null;
    }

    @Override
    public Void visitLambdaExpression(LambdaExpressionTree tree, Void none) {
        refuse(2, tree);
        return null;
    }

    @Override
    public Void visitMemberReference(MemberReferenceTree tree, Void none) {
        refuse(2, tree);
        return null;
    }

    @Override
    public Void visitTry(TryTree tree, Void none) {
        refuse(6, tree);
        return null;
    }

    @Override
    public Void visitSynchronized(SynchronizedTree tree, Void none) {
        refuse(6, tree);
        return null;
    }

    @Override
    public Void visitAssert(AssertTree tree, Void none) {
        refuse(6, tree);
        return null;
    }

    @Override
    public Void visitInstanceOf(InstanceOfTree tree, Void none) {
        refuse(6, tree);
        return null;
    }

    @Override
    public Void visitAnnotation(AnnotationTree tree, Void none) {
        refuse(1, tree);
        return null;
    }

    @Override
    public Void visitBlock(BlockTree tree, Void none) {
        need(!(getCurrentPath().getParentPath().getLeaf() instanceof ClassTree), 5, tree, "an initialiser block");
        return super.visitBlock(tree, none);
    }

    @Override
    public Void visitUnary(UnaryTree tree, Void none) {
        need(NUMBERS.contains(typeOf(tree).getKind()), 3, tree, "a sign before what is no number");
        return super.visitUnary(tree, none);
    }

    // ---- the test itself: what is against a rule is seen

    private static void brokenRulesAreSeen() throws IOException {
        String lines = "int a = 0;\n".repeat(MOST_LINES);
        String deep = "";
        for (int i = 1; i < MOST_CALLS; i++) {
            deep += "private void m" + i + "() { m" + (i + 1) + "(); } ";
        }
        String deepest = deep + "private void m" + MOST_CALLS + "() { } ";
        Expect.same(Set.of(), rulesBrokenBy(deepest));
        Expect.same(Set.of(), rulesBrokenBy("private void m(int a, int b, int c, int d, int e, int f, int g) { }"));
        Expect.same(Set.of(), rulesBrokenBy("private int[] r = new int[1]; private int g(int i) { "
                + "return i >= 0 && i < r.length ? r[i] : 0; }"));
        Expect.same(Set.of("1"), rulesBrokenBy("int field;"));
        Expect.same(Set.of("1"), rulesBrokenBy("void method() { }"));
        Expect.same(Set.of("1"), rulesBrokenBy("public void method() { } private void method(int a) { }"));
        Expect.same(Set.of("2"), rulesBrokenBy("private void m() { Runnable r = () -> { }; }", "3"));
        Expect.same(Set.of("2"), rulesBrokenBy("private static final class B extends A { }"));
        Expect.same(Set.of("3"), rulesBrokenBy("private String text;"));
        Expect.same(Set.of("3"), rulesBrokenBy("private void m() { Object o = null; }"));
        Expect.same(Set.of("4"), rulesBrokenBy("private int m(int a) { return Math.addExact(a, a); }"));
        Expect.same(Set.of("4"), rulesBrokenBy("private long m() { return System.nanoTime(); }"));
        Expect.same(Set.of("5"), rulesBrokenBy("private static int count;"));
        Expect.same(Set.of("5"), rulesBrokenBy("static { }"));
        Expect.same(Set.of("6"), rulesBrokenBy("private void m() { try { } catch (RuntimeException e) { } }"));
        Expect.same(Set.of("6"), rulesBrokenBy("private void m() { throw new NullPointerException(); }"));
        Expect.same(Set.of("6"), rulesBrokenBy("public String toString() { return null; }"));
        Expect.same(Set.of("7"), rulesBrokenBy("private int m(int[] r, int i) { return r[i]; }"));
        Expect.same(Set.of("7"), rulesBrokenBy("private int m(int[] r, int i) { return i < r.length ? r[i] : 0; }"));
        Expect.same(Set.of("7"), rulesBrokenBy("private int m(int a, int b) { return a / b; }"));
        Expect.same(Set.of("8"), rulesBrokenBy("private void m() { n(); } private void n() { m(); }"));
        Expect.same(Set.of("9"), rulesBrokenBy("private void m(int a) { while (a < 9) { a++; } }"));
        Expect.same(Set.of(), rulesBrokenBy("private void m() { for (int i = 0; i < 9; i++) { } }"));
        Expect.same(Set.of("9"), rulesBrokenBy("private void m() { for (int i = 0; i < 9; i++) { i = 0; } }"));
        Expect.same(Set.of("9"), rulesBrokenBy("private void m() { for (int i = 0; i < 9;) { i++; } }"));
        Expect.same(Set.of("10"), rulesBrokenBy("private boolean m(int a) { return (\"\" + a).isEmpty(); }", "4"));
        Expect.same(Set.of("11"), rulesBrokenBy("private void m() { { " + lines.replace("\n", "} {\n") + "} }"));
        Expect.same(Set.of("11"), rulesBrokenBy(deepest + "private void m() { m1(); }"));
        Expect.same(Set.of("11"), rulesBrokenBy("private void m(int a, int b, int c, int d, int e, int f, int g, "
                + "int h) { }"));
        Expect.same(Set.of("12"), rulesBrokenBy("private int m() { int[] r = new int[1]; return 0; }"));
        Expect.same(Set.of("12"), rulesBrokenBy("private A m() { return new A(); }"));
    }

    /** The rules that members break, but for those that the same words break besides. */
    private static Set<String> rulesBrokenBy(String members, String... besides) throws IOException {
        Set<String> rules = new TreeSet<>();
        String source = "public final class QuantityQuarry {\n    public QuantityQuarry() {\n    }\n    "
                + "private static class A {\n    }\n    " + members.replace("} private", "}\n    private") + "\n}\n";
        for (String place : problemsOf(source).keySet()) {
            rules.add(place.replaceAll("rule (\\d+) .*", "$1"));
        }
        rules.removeAll(Set.of(besides));
        return rules;
    }
}
