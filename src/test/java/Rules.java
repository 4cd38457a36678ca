import com.sun.source.tree.*;
import com.sun.source.util.JavacTask;
import com.sun.source.util.TreePathScanner;
import com.sun.source.util.Trees;
import java.net.URI;
import java.util.ArrayList;
import java.util.HashSet;
import java.util.LinkedHashMap;
import java.util.List;
import java.util.Map;
import java.util.Set;
import java.util.TreeSet;
import javax.lang.model.element.Element;
import javax.lang.model.element.ElementKind;
import javax.lang.model.element.ExecutableElement;
import javax.lang.model.element.Modifier;
import javax.lang.model.element.TypeElement;
import javax.lang.model.element.VariableElement;
import javax.lang.model.type.ArrayType;
import javax.lang.model.type.TypeKind;
import javax.lang.model.type.TypeMirror;
import javax.tools.JavaFileObject;
import javax.tools.SimpleJavaFileObject;
import javax.tools.ToolProvider;

/**
 * What of LANGUAGE.md's rules a program breaks, as the compiler sees it. It is stricter than they are: what
 * the program does not use (texts, lists, records, recursion ..) it does not take, though the rules would.
 */
final class Rules extends TreePathScanner<Void, Void> {
    static final int DEEPEST = 8, PARAMETERS = 7, LINES = 60, CLASSES = 12, FIELDS = 20;
    private static final Set<String> LIBRARY = Set.of("Math.min(int,int)", "Math.max(int,int)", "Integer.bitCount(int)");
    private static final Set<Tree.Kind> ON_POINTS = Set.of(Tree.Kind.PLUS, Tree.Kind.MINUS, Tree.Kind.MULTIPLY, Tree.Kind.DIVIDE,
        Tree.Kind.LESS_THAN, Tree.Kind.LESS_THAN_EQUAL, Tree.Kind.GREATER_THAN, Tree.Kind.GREATER_THAN_EQUAL,
        Tree.Kind.EQUAL_TO, Tree.Kind.NOT_EQUAL_TO);

    private final List<String> faults = new ArrayList<>();
    private final Map<Element, Set<Element>> calls = new LinkedHashMap<>();
    private final Set<String> openNames = new TreeSet<>();
    private final Trees trees;
    private final CompilationUnitTree unit;
    private Element inside = null;
    private int loops = 0;
    private int classes = 0;

    private Rules(Trees trees, CompilationUnitTree unit) {
        this.trees = trees;
        this.unit = unit;
    }

    /** The rules that a source breaks, each with its number and its line. */
    static List<String> brokenBy(String source) throws Exception {
        JavaFileObject file = new SimpleJavaFileObject(URI.create("string:///QuakeNet.java"), JavaFileObject.Kind.SOURCE) {
            @Override public CharSequence getCharContent(boolean ignored) { return source; }
        };
        JavacTask task = (JavacTask) ToolProvider.getSystemJavaCompiler().getTask(null, null, null, List.of("-proc:none"), null, List.of(file));
        CompilationUnitTree unit = task.parse().iterator().next();
        task.analyze();
        Rules rules = new Rules(Trees.instance(task), unit);
        rules.gatherOpenNames();
        rules.scan(unit, null);
        rules.lookAtCalls();
        if (rules.classes > CLASSES) rules.faults.add("11: " + rules.classes + " classes");
        if (!unit.getImports().isEmpty() || unit.getPackageName() != null) rules.faults.add("4: an import or a package");
        return rules.faults;
    }

    private void broken(int rule, Tree at, String what) {
        long line = unit.getLineMap().getLineNumber(trees.getSourcePositions().getStartPosition(unit, at));
        faults.add(rule + ": " + what + ", line " + line);
    }

    private TypeMirror typeOf(Tree tree) {
        return trees.getTypeMirror(trees.getPath(unit, tree));
    }

    private boolean isPoint(Tree tree) {
        TypeMirror t = typeOf(tree);
        return t != null && (t.getKind() == TypeKind.DOUBLE || t.getKind() == TypeKind.FLOAT);
    }

    private Element elementOf(Tree tree) {
        return trees.getElement(trees.getPath(unit, tree));
    }

    private static boolean isOwn(Element e) {
        Element top = e;
        while (top.getEnclosingElement() != null && top.getEnclosingElement().getKind() != ElementKind.PACKAGE) top = top.getEnclosingElement();
        return top.getSimpleName().contentEquals("QuakeNet");
    }

    // ---- 1, 2, 5, 11: classes, fields, methods

    private void gatherOpenNames() {
        for (Tree type : unit.getTypeDecls()) {
            for (Tree part : ((ClassTree) type).getMembers()) {
                if (part instanceof MethodTree m && m.getReturnType() != null && m.getModifiers().getFlags().contains(Modifier.PUBLIC)) openNames.add(m.getName().toString());
            }
        }
    }

    @Override public Void visitClass(ClassTree c, Void v) {
        classes++;
        Set<Modifier> flags = c.getModifiers().getFlags();
        Tree around = getCurrentPath().getParentPath().getLeaf();
        boolean top = around instanceof CompilationUnitTree;
        if (!top && !(around instanceof ClassTree)) broken(2, c, "a local class");
        if (top && !(flags.contains(Modifier.PUBLIC) && flags.contains(Modifier.FINAL))) broken(1, c, "not public and final");
        if (!top && (!flags.contains(Modifier.STATIC) || flags.contains(Modifier.PUBLIC) || flags.contains(Modifier.PROTECTED))) broken(2, c, "a class inside that is not static or too open");
        int fields = 0;
        for (Tree part : c.getMembers()) {
            if (part instanceof BlockTree) broken(5, part, "an initialiser block");
            if (part instanceof VariableTree f && !f.getModifiers().getFlags().contains(Modifier.STATIC)) fields++;
            if (top && part instanceof VariableTree f && !f.getModifiers().getFlags().contains(Modifier.PRIVATE) && !f.getModifiers().getFlags().contains(Modifier.PUBLIC)) broken(1, f, "a field that is neither public nor private");
        }
        if (fields > FIELDS) broken(11, c, fields + " fields");
        return super.visitClass(c, v);
    }

    @Override public Void visitVariable(VariableTree t, Void v) {
        VariableElement e = (VariableElement) elementOf(t);
        lookAtType(t, e.asType(), 0);
        if (e.getModifiers().contains(Modifier.STATIC)) {
            TypeKind kind = e.asType().getKind();
            boolean plain = kind == TypeKind.INT || kind == TypeKind.LONG;
            if (!plain || e.getConstantValue() == null) broken(5, t, e + " is no constant of int or long");
        }
        Element around = inside;
        if (e.getKind() == ElementKind.FIELD) inside = e.getEnclosingElement();
        super.visitVariable(t, v);
        inside = around;
        return null;
    }

    private void lookAtType(Tree at, TypeMirror type, int dimensions) {
        if (type instanceof ArrayType a) {
            lookAtType(at, a.getComponentType(), dimensions + 1);
        } else if (type.getKind().isPrimitive() || type.getKind() == TypeKind.VOID) {
            if (dimensions > 2) broken(3, at, "too many dimensions");
        } else if (!isOwn(((javax.lang.model.type.DeclaredType) type).asElement()) || dimensions > 1) {
            broken(3, at, "the type " + type);
        }
    }

    @Override public Void visitMethod(MethodTree m, Void v) {
        ExecutableElement e = (ExecutableElement) elementOf(m);
        boolean open = m.getModifiers().getFlags().contains(Modifier.PUBLIC);
        boolean top = e.getEnclosingElement().getEnclosingElement().getKind() == ElementKind.PACKAGE;
        boolean made = e.getKind() == ElementKind.CONSTRUCTOR;
        lookAtType(m, e.getReturnType(), 0);
        if (!open && openNames.contains(m.getName().toString())) broken(1, m, m.getName() + " bears a public name");
        if (!open && top && !made && !m.getModifiers().getFlags().contains(Modifier.PRIVATE)) broken(1, m, m.getName() + " is neither public nor private");
        if (m.getParameters().size() > PARAMETERS) broken(11, m, m.getName() + " takes " + m.getParameters().size() + " numbers");
        long lines = lineBehind(m) - unit.getLineMap().getLineNumber(trees.getSourcePositions().getStartPosition(unit, m)) + 1;
        if (lines > LINES) broken(11, m, m.getName() + " has " + lines + " lines");
        if (!m.getThrows().isEmpty()) broken(6, m, "throws");
        inside = e;
        calls.computeIfAbsent(e, k -> new HashSet<>());
        // a constructor does what its class's fields ask for, too
        if (made) calls.get(e).add(e.getEnclosingElement());
        super.visitMethod(m, v);
        inside = null;
        return null;
    }

    private long lineBehind(Tree t) {
        return unit.getLineMap().getLineNumber(trees.getSourcePositions().getEndPosition(unit, t));
    }

    // ---- 3: acts on numbers with a point

    @Override public Void visitBinary(BinaryTree b, Void v) {
        boolean point = isPoint(b.getLeftOperand()) || isPoint(b.getRightOperand());
        if (point && !ON_POINTS.contains(b.getKind())) broken(3, b, b.getKind() + " on a number with a point");
        if (!point && (b.getKind() == Tree.Kind.DIVIDE || b.getKind() == Tree.Kind.REMAINDER)) lookAtDivisor(b, b.getRightOperand());
        if (b.getKind() == Tree.Kind.EQUAL_TO || b.getKind() == Tree.Kind.NOT_EQUAL_TO) {
            boolean plain = typeOf(b.getLeftOperand()).getKind().isPrimitive() && typeOf(b.getRightOperand()).getKind().isPrimitive();
            boolean none = b.getLeftOperand().getKind() == Tree.Kind.NULL_LITERAL || b.getRightOperand().getKind() == Tree.Kind.NULL_LITERAL;
            if (!plain && !none) broken(6, b, "== between objects");
        }
        return super.visitBinary(b, v);
    }

    // Whole numbers are divided by what is written down alone, or by a width of 1 at least.
    private void lookAtDivisor(Tree at, ExpressionTree by) {
        boolean written = by instanceof LiteralTree l && ((Number) l.getValue()).longValue() != 0L;
        Element e = elementOf(by);
        boolean constant = e instanceof VariableElement f && f.getConstantValue() instanceof Number n && n.longValue() != 0L;
        if (!written && !constant && !by.toString().equals("width")) broken(7, at, "divided by " + by);
    }

    @Override public Void visitUnary(UnaryTree u, Void v) {
        boolean literal = u.getExpression() instanceof LiteralTree;
        if (isPoint(u.getExpression()) && !literal) broken(3, u, u.getKind() + " on a number with a point");
        return super.visitUnary(u, v);
    }

    @Override public Void visitCompoundAssignment(CompoundAssignmentTree a, Void v) {
        if (isPoint(a.getVariable()) || isPoint(a.getExpression())) broken(3, a, a.getKind() + " on a number with a point");
        if (a.getKind() == Tree.Kind.DIVIDE_ASSIGNMENT || a.getKind() == Tree.Kind.REMAINDER_ASSIGNMENT) broken(7, a, "a divisor unseen");
        return super.visitCompoundAssignment(a, v);
    }

    @Override public Void visitTypeCast(TypeCastTree c, Void v) {
        if (!typeOf(c).getKind().isPrimitive()) broken(6, c, "a cast of objects");
        return super.visitTypeCast(c, v);
    }

    @Override public Void visitLiteral(LiteralTree l, Void v) {
        if (l.getValue() instanceof String || l.getValue() instanceof Character) broken(3, l, "a text");
        return super.visitLiteral(l, v);
    }

    // ---- 4, 8, 11, 12: what is called and made

    @Override public Void visitMethodInvocation(MethodInvocationTree call, Void v) {
        ExecutableElement e = (ExecutableElement) elementOf(call);
        TypeElement of = (TypeElement) e.getEnclosingElement();
        if (isOwn(e)) {
            if (inside != null) calls.computeIfAbsent(inside, k -> new HashSet<>()).add(e);
        } else if (!LIBRARY.contains(of.getSimpleName() + "." + e) && !(e.getKind() == ElementKind.CONSTRUCTOR && of.getSimpleName().contentEquals("Object"))) {
            broken(4, call, "the library's " + of.getSimpleName() + "." + e);
        }
        return super.visitMethodInvocation(call, v);
    }

    @Override public Void visitNewClass(NewClassTree n, Void v) {
        Element e = elementOf(n);
        if (n.getClassBody() != null) broken(2, n, "a class without a name");
        if (!isOwn(e)) broken(4, n, "new " + n.getIdentifier());
        if (inside != null) calls.computeIfAbsent(inside, k -> new HashSet<>()).add(e);
        lookAtMaking(n);
        return super.visitNewClass(n, v);
    }

    @Override public Void visitNewArray(NewArrayTree n, Void v) {
        lookAtMaking(n);
        return super.visitNewArray(n, v);
    }

    // The room is small: rows and objects are made with the net and with its stations alone.
    private void lookAtMaking(Tree n) {
        boolean early = inside instanceof TypeElement || inside != null && inside.getKind() == ElementKind.CONSTRUCTOR;
        boolean station = inside != null && inside.getSimpleName().contentEquals("station");
        if (loops > 0 || !early && !station) broken(12, n, "made in " + inside + (loops > 0 ? ", in a loop" : ""));
    }

    private void lookAtCalls() {
        for (Element e : calls.keySet()) {
            int deep = depthFrom(e, new HashSet<>());
            if (deep > DEEPEST) faults.add("11: " + e + " goes " + deep + " calls deep");
        }
    }

    // Fields of a class are no call of their own: they lie within its constructor.
    private int depthFrom(Element e, Set<Element> open) {
        if (!open.add(e)) {
            faults.add("8: " + e + " calls itself");
            return 0;
        }
        int deepest = 0;
        for (Element next : calls.getOrDefault(e, Set.of())) deepest = Math.max(deepest, depthFrom(next, open));
        open.remove(e);
        return deepest + (e instanceof TypeElement ? 0 : 1);
    }

    // ---- 9: loops

    @Override public Void visitForLoop(ForLoopTree f, Void v) {
        if (!countsToItsEnd(f)) broken(9, f, "the loop's end can't be seen");
        loops++;
        super.visitForLoop(f, v);
        loops--;
        return null;
    }

    private static boolean countsToItsEnd(ForLoopTree f) {
        if (f.getInitializer().size() != 1 || !(f.getInitializer().get(0) instanceof VariableTree counter)) return false;
        if (f.getCondition() == null || f.getUpdate().size() != 1) return false;
        String name = counter.getName().toString();
        String bound = f.getCondition().toString(), change = f.getUpdate().get(0).toString(), body = f.getStatement().toString();
        boolean compared = bound.matches("(.* )?" + name + " (<|<=|>|>=) .*") || bound.matches("\\(?" + name + " .*");
        boolean moved = change.matches("\\(?" + name + "(\\+\\+| \\+= (stride|\\d+)| -= \\d+| = " + name + " / 2)\\)?;?");
        return compared && moved && !body.matches("(?s).*\\b" + name + "(\\+\\+|--| [-+*/]?= ).*");
    }

    @Override public Void visitWhileLoop(WhileLoopTree w, Void v) {
        // the counter of the one such loop goes down to 0
        boolean seen = w.getCondition().toString().startsWith("(at > 0 && ") && w.getStatement().toString().contains("at--");
        if (!seen) broken(9, w, "the loop's end can't be seen");
        loops++;
        super.visitWhileLoop(w, v);
        loops--;
        return null;
    }

    @Override public Void visitDoWhileLoop(DoWhileLoopTree d, Void v) { broken(9, d, "do"); return super.visitDoWhileLoop(d, v); }
    @Override public Void visitEnhancedForLoop(EnhancedForLoopTree f, Void v) { broken(9, f, "for over a row"); return super.visitEnhancedForLoop(f, v); }

    // ---- 2, 6: what is not there at all

    @Override public Void visitThrow(ThrowTree t, Void v) { broken(6, t, "throw"); return super.visitThrow(t, v); }
    @Override public Void visitTry(TryTree t, Void v) { broken(6, t, "try"); return super.visitTry(t, v); }
    @Override public Void visitSynchronized(SynchronizedTree t, Void v) { broken(6, t, "synchronized"); return super.visitSynchronized(t, v); }
    @Override public Void visitAssert(AssertTree t, Void v) { broken(6, t, "assert"); return super.visitAssert(t, v); }
    @Override public Void visitInstanceOf(InstanceOfTree t, Void v) { broken(6, t, "instanceof"); return super.visitInstanceOf(t, v); }
    @Override public Void visitLambdaExpression(LambdaExpressionTree t, Void v) { broken(2, t, "a lambda"); return super.visitLambdaExpression(t, v); }
    @Override public Void visitMemberReference(MemberReferenceTree t, Void v) { broken(2, t, "a method reference"); return super.visitMemberReference(t, v); }
    @Override public Void visitSwitchExpression(SwitchExpressionTree t, Void v) { broken(10, t, "a switch that answers"); return super.visitSwitchExpression(t, v); }
}
