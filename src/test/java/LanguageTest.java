import com.sun.source.tree.ArrayTypeTree;
import com.sun.source.tree.AssertTree;
import com.sun.source.tree.BinaryTree;
import com.sun.source.tree.ClassTree;
import com.sun.source.tree.CompilationUnitTree;
import com.sun.source.tree.CompoundAssignmentTree;
import com.sun.source.tree.ForLoopTree;
import com.sun.source.tree.IdentifierTree;
import com.sun.source.tree.InstanceOfTree;
import com.sun.source.tree.LambdaExpressionTree;
import com.sun.source.tree.LiteralTree;
import com.sun.source.tree.MemberReferenceTree;
import com.sun.source.tree.MemberSelectTree;
import com.sun.source.tree.MethodTree;
import com.sun.source.tree.PrimitiveTypeTree;
import com.sun.source.tree.SynchronizedTree;
import com.sun.source.tree.ThrowTree;
import com.sun.source.tree.Tree;
import com.sun.source.tree.TryTree;
import com.sun.source.tree.TypeCastTree;
import com.sun.source.tree.VariableTree;
import com.sun.source.tree.WhileLoopTree;
import com.sun.source.util.JavacTask;
import com.sun.source.util.TreePathScanner;
import com.sun.source.util.Trees;
import java.io.IOException;
import java.nio.file.Path;
import java.util.ArrayList;
import java.util.HashMap;
import java.util.HashSet;
import java.util.LinkedHashMap;
import java.util.List;
import java.util.Map;
import java.util.Set;
import java.util.TreeSet;
import javax.lang.model.element.Element;
import javax.lang.model.element.ElementKind;
import javax.lang.model.element.ExecutableElement;
import javax.lang.model.element.Modifier;
import javax.lang.model.element.TypeElement;
import javax.lang.model.element.VariableElement;
import javax.lang.model.type.TypeKind;
import javax.tools.JavaCompiler;
import javax.tools.StandardJavaFileManager;
import javax.tools.ToolProvider;

/** What of ../shared/LANGUAGE.md can be seen in the source, as the compiler reads it; the class needs less than is allowed. */
public final class LanguageTest extends TreePathScanner<Void, Void> {
    private static final String SOURCE = "src/main/java/SchoolHouse.java";
    private static final String FACE = "feed(int,long)int read()int count(int)int pupil(int,int)int parent(int)int"
        + " person(int,int)int level(int,int)int marks(int,int,int)int mark(int,int,int,int)int markOf(int,int,int)int"
        + " run(int,int,int,int,int,int)int gave(int)long steps()int stand(int,int)int standing(int)int week(int)int"
        + " bar(int,int,int)int wish(int,int,int)int build(int)int table(int)int unit(int,int)int prefer(int,int)int"
        + " lottery(int)int ticket(int,int)int match(int)int placed(int)int stable()int absent(int,int,int)int"
        + " cover(int)int covers(int)int BAD:int NO:int FULL:int NONE:int <init>()void";
    private static final Set<String> LIBRARY = Set.of("java", "java.util", "Arrays", "Arrays.copyOf", "Arrays.fill", "Math", "Math.min",
        "Math.max", "Math.abs", "Integer", "Integer.MIN_VALUE", "Integer.MAX_VALUE", "Long", "Long.MAX_VALUE", "String",
        "String.length", "String.charAt", "String.indexOf", "Object.<init>", "Array.length", "Array.clone");

    private final CompilationUnitTree unit;
    private final Trees trees;
    private final Map<Element, Set<Element>> calls = new LinkedHashMap<>();
    private final Set<String> face = new TreeSet<>();
    private final Set<String> faceNames = new HashSet<>();
    private int classes;
    private Element method;

    private LanguageTest(CompilationUnitTree unit, Trees trees) {
        this.unit = unit;
        this.trees = trees;
    }

    public static void main(String[] args) throws IOException {
        JavaCompiler compiler = ToolProvider.getSystemJavaCompiler();
        try (StandardJavaFileManager files = compiler.getStandardFileManager(null, null, null)) {
            JavacTask task = (JavacTask) compiler.getTask(null, files, null, List.of("-proc:none"), null,
                files.getJavaFileObjects(Path.of(SOURCE)));
            CompilationUnitTree unit = task.parse().iterator().next();
            task.analyze();
            new LanguageTest(unit, Trees.instance(task)).look();
        }
        Check.finish();
    }

    private void look() {
        Check.part("LANGUAGE.md");
        Check.due("lines that name a package", unit.getPackageName() == null ? 0 : 1, 0);
        Check.due("classes side by side", unit.getTypeDecls().size(), 1);
        for (String member : FACE.split(" ")) {
            if (member.contains("(")) faceNames.add(member.substring(0, member.indexOf('(')));
        }
        scan(unit, null);
        Check.due("the face is " + face, face.equals(new TreeSet<>(List.of(FACE.split(" ")))) ? 1 : 0, 1);
        holds("at most some twelve classes: " + classes, classes <= 12);
        for (Element m : calls.keySet()) {
            if (m.getModifiers().contains(Modifier.PUBLIC)) holds("calls below " + m + " are eight deep at most", deepest(m) <= 8);
        }
    }

    /** A rule of LANGUAGE.md that a line must keep. */
    private static void holds(String what, boolean so) {
        Check.due(what, so ? 1 : 0, 1);
    }

    private void forbid(Tree node) {
        holds("line " + line(trees.getSourcePositions().getStartPosition(unit, node)) + ": " + node.getKind(), false);
    }

    private long line(long position) {
        return unit.getLineMap().getLineNumber(position);
    }

    private Element element() {
        return trees.getElement(getCurrentPath());
    }

    // ---- classes, fields and methods

    @Override
    public Void visitClass(ClassTree node, Void p) {
        classes++;
        Element type = element();
        boolean outermost = type.getEnclosingElement().getKind() == ElementKind.PACKAGE;
        Set<Modifier> all = type.getModifiers();
        holds(type + " is final", all.contains(Modifier.FINAL));
        holds(type + " is in its place", outermost ? all.contains(Modifier.PUBLIC) : all.contains(Modifier.STATIC)
            && !all.contains(Modifier.PUBLIC) && !all.contains(Modifier.PROTECTED));
        int fields = 0;
        for (Element member : type.getEnclosedElements()) {
            if (outermost) lookAtFace(member);
            if (member.getKind().isField() && !member.getModifiers().contains(Modifier.STATIC)) fields++;
        }
        holds(type + " has some twenty fields at most: " + fields, fields <= 22);
        return super.visitClass(node, p);
    }

    private void lookAtFace(Element member) {
        Set<Modifier> all = member.getModifiers();
        if (all.contains(Modifier.PUBLIC)) {
            if (member instanceof ExecutableElement e) face.add(e.toString().replace("SchoolHouse(", "<init>(") + e.getReturnType());
            else face.add(member.getSimpleName() + ":" + member.asType());
        } else {
            holds(member + " is private or a class", all.contains(Modifier.PRIVATE) || member instanceof TypeElement);
        }
    }

    @Override
    public Void visitMethod(MethodTree node, Void p) {
        method = element();
        calls.put(method, new HashSet<>());
        Set<Modifier> all = method.getModifiers();
        String name = method.getSimpleName().toString();
        holds(method + " bears no name of the face", !all.contains(Modifier.PRIVATE) || !faceNames.contains(name));
        holds(method + " takes seven parameters at most", node.getParameters().size() <= 7);
        holds(method + " is no equals, hashCode or toString", !Set.of("equals", "hashCode", "toString").contains(name));
        long from = trees.getSourcePositions().getStartPosition(unit, node);
        long to = trees.getSourcePositions().getEndPosition(unit, node);
        if (to > from) holds(method + " has some sixty lines at most", line(to) - line(from) < 60);
        super.visitMethod(node, p);
        method = null;
        return null;
    }

    @Override
    public Void visitVariable(VariableTree node, Void p) {
        VariableElement v = (VariableElement) element();
        if (v.getKind() == ElementKind.FIELD && v.getModifiers().contains(Modifier.STATIC)) {
            holds("a constant: " + v, v.getModifiers().contains(Modifier.FINAL)
                && (v.asType().getKind().isPrimitive() || v.asType().toString().equals("java.lang.String")));
        }
        return super.visitVariable(node, p);
    }

    // ---- types and what comes from the library

    @Override
    public Void visitPrimitiveType(PrimitiveTypeTree node, Void p) {
        TypeKind kind = node.getPrimitiveTypeKind();
        if (kind == TypeKind.DOUBLE || kind == TypeKind.FLOAT) forbid(node);
        return super.visitPrimitiveType(node, p);
    }

    @Override
    public Void visitArrayType(ArrayTypeTree node, Void p) {
        Tree of = node.getType();
        if (of instanceof ArrayTypeTree inner) of = inner.getType();
        if (!(of instanceof PrimitiveTypeTree)) forbid(node);
        return super.visitArrayType(node, p);
    }

    @Override
    public Void visitIdentifier(IdentifierTree node, Void p) {
        use(element());
        return super.visitIdentifier(node, p);
    }

    @Override
    public Void visitMemberSelect(MemberSelectTree node, Void p) {
        use(element());
        return super.visitMemberSelect(node, p);
    }

    private void use(Element e) {
        if (e == null || e.getKind() == ElementKind.LOCAL_VARIABLE || e.getKind() == ElementKind.PARAMETER) return;
        Element outer = e;
        while (outer.getEnclosingElement() != null && outer.getEnclosingElement().getKind() != ElementKind.PACKAGE
            && outer.getKind() != ElementKind.PACKAGE) {
            outer = outer.getEnclosingElement();
        }
        if (outer.getSimpleName().contentEquals("SchoolHouse")) {
            if (method != null && e instanceof ExecutableElement) calls.get(method).add(e);
            return;
        }
        String name = e.getSimpleName().toString();
        if (e.getKind() == ElementKind.PACKAGE) name = e.toString();
        else if (!(e instanceof TypeElement)) name = e.getEnclosingElement().getSimpleName() + "." + name;
        holds("of the library: " + name, LIBRARY.contains(name));
    }

    // ---- what is not to be used

    @Override
    public Void visitLiteral(LiteralTree node, Void p) {
        if (node.getValue() instanceof String text) holds("signs 1 to 127: " + text, text.chars().allMatch(c -> c >= 1 && c <= 127));
        return super.visitLiteral(node, p);
    }

    @Override
    public Void visitBinary(BinaryTree node, Void p) {
        String type = trees.getTypeMirror(getCurrentPath()).toString();
        if (!Set.of("int", "long", "boolean").contains(type)) forbid(node);
        return super.visitBinary(node, p);
    }

    @Override
    public Void visitCompoundAssignment(CompoundAssignmentTree node, Void p) {
        if (!trees.getTypeMirror(getCurrentPath()).getKind().isPrimitive()) forbid(node);
        return super.visitCompoundAssignment(node, p);
    }

    @Override
    public Void visitTypeCast(TypeCastTree node, Void p) {
        if (!(node.getType() instanceof PrimitiveTypeTree)) forbid(node);
        return super.visitTypeCast(node, p);
    }

    @Override
    public Void visitForLoop(ForLoopTree node, Void p) {
        if (node.getCondition() == null) forbid(node);
        return super.visitForLoop(node, p);
    }

    @Override
    public Void visitWhileLoop(WhileLoopTree node, Void p) {
        if (!node.getCondition().toString().contains("<")) forbid(node);
        return super.visitWhileLoop(node, p);
    }

    @Override
    public Void visitTry(TryTree node, Void p) {
        forbid(node);
        return null;
    }

    @Override
    public Void visitThrow(ThrowTree node, Void p) {
        forbid(node);
        return null;
    }

    @Override
    public Void visitAssert(AssertTree node, Void p) {
        forbid(node);
        return null;
    }

    @Override
    public Void visitSynchronized(SynchronizedTree node, Void p) {
        forbid(node);
        return null;
    }

    @Override
    public Void visitLambdaExpression(LambdaExpressionTree node, Void p) {
        forbid(node);
        return null;
    }

    @Override
    public Void visitMemberReference(MemberReferenceTree node, Void p) {
        forbid(node);
        return null;
    }

    @Override
    public Void visitInstanceOf(InstanceOfTree node, Void p) {
        forbid(node);
        return null;
    }

    // ---- how deep calls go

    private final Map<Element, Set<Element>> below = new HashMap<>();
    private final Map<Element, Integer> depths = new HashMap<>();

    /** All that a method calls, itself or by others. */
    private Set<Element> below(Element m) {
        Set<Element> known = below.get(m);
        if (known != null) return known;
        Set<Element> all = new HashSet<>();
        List<Element> open = new ArrayList<>(List.of(m));
        while (!open.isEmpty()) {
            for (Element called : calls.getOrDefault(open.remove(open.size() - 1), Set.of())) {
                if (all.add(called)) open.add(called);
            }
        }
        below.put(m, all);
        return all;
    }

    private boolean recurs(Element m) {
        return below(m).contains(m);
    }

    /** The longest chain of calls from a method on, methods that recur aside. */
    private int deepest(Element m) {
        Integer known = depths.get(m);
        if (known != null) return known;
        Set<Element> from = new HashSet<>();
        from.add(m);
        // those that recur together are left at any of them
        if (recurs(m)) {
            for (Element other : below(m)) {
                if (below(other).contains(m)) from.add(other);
            }
        }
        int most = 0;
        for (Element f : from) {
            for (Element called : calls.getOrDefault(f, Set.of())) {
                if (!from.contains(called)) most = Math.max(most, deepest(called));
            }
        }
        int depth = most + (recurs(m) ? 0 : 1);
        depths.put(m, depth);
        return depth;
    }
}
