import com.sun.source.tree.AssertTree;
import com.sun.source.tree.BinaryTree;
import com.sun.source.tree.CatchTree;
import com.sun.source.tree.ClassTree;
import com.sun.source.tree.CompilationUnitTree;
import com.sun.source.tree.CompoundAssignmentTree;
import com.sun.source.tree.DoWhileLoopTree;
import com.sun.source.tree.ForLoopTree;
import com.sun.source.tree.ImportTree;
import com.sun.source.tree.LambdaExpressionTree;
import com.sun.source.tree.LineMap;
import com.sun.source.tree.LiteralTree;
import com.sun.source.tree.MemberReferenceTree;
import com.sun.source.tree.MethodInvocationTree;
import com.sun.source.tree.MethodTree;
import com.sun.source.tree.NewArrayTree;
import com.sun.source.tree.NewClassTree;
import com.sun.source.tree.SynchronizedTree;
import com.sun.source.tree.ThrowTree;
import com.sun.source.tree.Tree;
import com.sun.source.tree.TryTree;
import com.sun.source.tree.TypeCastTree;
import com.sun.source.tree.VariableTree;
import com.sun.source.tree.WhileLoopTree;
import com.sun.source.util.JavacTask;
import com.sun.source.util.SourcePositions;
import com.sun.source.util.TreePath;
import com.sun.source.util.TreePathScanner;
import com.sun.source.util.Trees;
import java.io.IOException;
import java.nio.file.Path;
import java.util.ArrayList;
import java.util.LinkedHashMap;
import java.util.LinkedHashSet;
import java.util.List;
import java.util.Map;
import java.util.Set;
import java.util.TreeSet;
import javax.lang.model.element.Element;
import javax.lang.model.element.ElementKind;
import javax.lang.model.element.ExecutableElement;
import javax.lang.model.element.Modifier;
import javax.lang.model.element.TypeElement;
import javax.lang.model.type.TypeMirror;
import javax.tools.JavaCompiler;
import javax.tools.StandardJavaFileManager;
import javax.tools.ToolProvider;

/** The rules of LANGUAGE.md that the source itself shows, read as the compiler reads it. */
public final class LanguageTreeTest extends TreePathScanner<Void, Void> {
    private static final String LIBRARY = " String.length String.charAt String.isEmpty String.equals String.indexOf String.substring String.toCharArray"
        + " StringBuilder.append StringBuilder.charAt StringBuilder.setCharAt StringBuilder.setLength StringBuilder.deleteCharAt StringBuilder.reverse"
        + " StringBuilder.length StringBuilder.toString Integer.bitCount Integer.compare Integer.max Integer.min Long.compare Long.max Long.min"
        + " Math.max Math.min Math.abs Math.floorDiv Math.floorMod System.arraycopy Arrays.copyOf Arrays.copyOfRange Arrays.fill ";
    private static final String IMPORTS = " java.util.Arrays ";
    private static final String TYPES = " int long short byte char boolean double float void String StringBuilder ";
    private static final int MOST_LINES = 60;
    private static final int MOST_PARAMETERS = 7;
    private static final int MOST_DEEP = 8;
    private static final int MOST_CLASSES = 12;
    private static final int MOST_FIELDS = 20;

    private final Trees trees;
    private final CompilationUnitTree unit;
    private final SourcePositions positions;
    private final LineMap lines;
    private final Map<Element, Set<Element>> calls = new LinkedHashMap<>();
    private Element inMethod = null;
    private int loops = 0;
    private int classes = 0;
    private int wrong = 0;

    private LanguageTreeTest(Trees trees, CompilationUnitTree unit) {
        this.trees = trees;
        this.unit = unit;
        this.positions = trees.getSourcePositions();
        this.lines = unit.getLineMap();
    }

    public static void main(String[] args) throws IOException {
        Path source = Path.of(args.length > 0 ? args[0] : "src/main/java/SpoutNews.java");
        JavaCompiler compiler = ToolProvider.getSystemJavaCompiler();
        int wrong = 0;
        try (StandardJavaFileManager files = compiler.getStandardFileManager(null, null, null)) {
            JavacTask task = (JavacTask) compiler.getTask(null, files, null, List.of("-proc:none"), null, files.getJavaFileObjects(source));
            for (CompilationUnitTree unit : task.parse()) {
                task.analyze();
                LanguageTreeTest test = new LanguageTreeTest(Trees.instance(task), unit);
                test.scan(unit, null);
                test.checkCalls();
                wrong += test.wrong;
            }
        }
        System.out.println("LanguageTreeTest: " + (wrong == 0 ? "all is as told" : wrong + " faults"));
        if (wrong != 0) {
            System.exit(1);
        }
    }

    private void rule(int number, Tree where, String what, boolean kept) {
        if (!kept) {
            wrong++;
            long line = where == null ? 0 : lines.getLineNumber(positions.getStartPosition(unit, where));
            System.out.println("LANGUAGE.md rule " + number + ", line " + line + ": " + what);
        }
    }

    private Element element(Tree t) {
        return trees.getElement(trees.getPath(unit, t));
    }

    private TypeMirror type(Tree t) {
        return trees.getTypeMirror(new TreePath(getCurrentPath(), t));
    }

    private static boolean isOwn(String type) {
        return type.equals("SpoutNews") || type.startsWith("SpoutNews.");
    }

    private static String plainType(TypeMirror t) {
        return String.valueOf(t).replace("java.lang.", "");
    }

    private static boolean isText(TypeMirror t) {
        return plainType(t).equals("String");
    }

    private long lineOf(long place) {
        return lines.getLineNumber(place);
    }

    @Override
    public Void visitCompilationUnit(CompilationUnitTree node, Void p) {
        rule(1, node, "a package", node.getPackage() == null);
        rule(1, node, "another class beside the first", node.getTypeDecls().size() == 1);
        Void done = super.visitCompilationUnit(node, p);
        rule(11, node, classes + " classes", classes <= MOST_CLASSES);
        return done;
    }

    @Override
    public Void visitImport(ImportTree node, Void p) {
        String name = String.valueOf(node.getQualifiedIdentifier());
        rule(4, node, "the import of " + name, !node.isStatic() && IMPORTS.contains(" " + name + " "));
        return super.visitImport(node, p);
    }

    @Override
    public Void visitClass(ClassTree node, Void p) {
        classes++;
        Element self = element(node);
        Element around = self.getEnclosingElement();
        boolean outer = around.getKind() == ElementKind.PACKAGE;
        rule(2, node, "a class inside a method", outer || around.getKind().isClass());
        rule(2, node, node.getSimpleName() + " is not static", outer || self.getModifiers().contains(Modifier.STATIC));
        rule(1, node, node.getSimpleName() + " is seen outside", outer || !self.getModifiers().contains(Modifier.PUBLIC)
            && !self.getModifiers().contains(Modifier.PROTECTED));
        int fields = 0;
        for (Tree member : node.getMembers()) {
            rule(5, member, "an initialiser block", member.getKind() != Tree.Kind.BLOCK);
            if (member instanceof VariableTree && !element(member).getModifiers().contains(Modifier.STATIC)) {
                fields++;
            }
        }
        rule(11, node, node.getSimpleName() + " has " + fields + " fields", fields <= MOST_FIELDS);
        return super.visitClass(node, p);
    }

    @Override
    public Void visitMethod(MethodTree node, Void p) {
        Element before = inMethod;
        inMethod = element(node);
        calls.putIfAbsent(inMethod, new LinkedHashSet<>());
        long first = lineOf(positions.getStartPosition(unit, node));
        long last = lineOf(positions.getEndPosition(unit, node));
        rule(11, node, node.getName() + " has " + (last - first + 1) + " lines", last - first < MOST_LINES);
        rule(11, node, node.getName() + " takes many", node.getParameters().size() <= MOST_PARAMETERS);
        rule(6, node, node.getName() + " throws", node.getThrows().isEmpty());
        Void done = super.visitMethod(node, p);
        inMethod = before;
        return done;
    }

    @Override
    public Void visitVariable(VariableTree node, Void p) {
        Element e = element(node);
        String all = plainType(e.asType());
        String one = all.replace("[]", "");
        rule(3, node, "the type " + all, TYPES.contains(" " + one + " ") || isOwn(one));
        rule(3, node, "the type " + all, !all.contains("[][]"));
        if (e.getModifiers().contains(Modifier.STATIC)) {
            rule(5, node, node.getName() + " is not final", e.getModifiers().contains(Modifier.FINAL));
            rule(5, node, node.getName() + " is no constant", " int long boolean char String ".contains(" " + all + " "));
        }
        return super.visitVariable(node, p);
    }

    @Override
    public Void visitMethodInvocation(MethodInvocationTree node, Void p) {
        Element e = trees.getElement(getCurrentPath());
        String owner = String.valueOf(((TypeElement) e.getEnclosingElement()).getQualifiedName());
        if (isOwn(owner)) {
            note(e);
        } else if (!e.getKind().equals(ElementKind.CONSTRUCTOR)) {
            String name = owner.substring(owner.lastIndexOf('.') + 1) + "." + e.getSimpleName();
            rule(4, node, "the library's " + name, LIBRARY.contains(" " + name + " "));
        }
        return super.visitMethodInvocation(node, p);
    }

    private void note(Element called) {
        if (inMethod != null) {
            calls.computeIfAbsent(inMethod, k -> new LinkedHashSet<>()).add(called);
        }
    }

    @Override
    public Void visitNewClass(NewClassTree node, Void p) {
        rule(2, node, "an anonymous class", node.getClassBody() == null);
        Element made = trees.getElement(getCurrentPath());
        rule(4, node, "a new " + plainType(type(node)), isOwn(plainType(type(node))));
        madeOnlyAtFirst(node);
        note(made);
        return super.visitNewClass(node, p);
    }

    @Override
    public Void visitNewArray(NewArrayTree node, Void p) {
        madeOnlyAtFirst(node);
        return super.visitNewArray(node, p);
    }

    /** Stricter than rule 12: no call makes anything, so that the room of a run is as large as its objects alone. */
    private void madeOnlyAtFirst(Tree node) {
        rule(12, node, "something is made outside fields and constructors", inMethod == null || inMethod.getKind() == ElementKind.CONSTRUCTOR);
    }

    @Override
    public Void visitBinary(BinaryTree node, Void p) {
        boolean text = isText(type(node.getLeftOperand())) || isText(type(node.getRightOperand()));
        rule(10, node, "texts joined by +", node.getKind() != Tree.Kind.PLUS || !text);
        rule(6, node, "texts compared by == or !=", node.getKind() != Tree.Kind.EQUAL_TO && node.getKind() != Tree.Kind.NOT_EQUAL_TO || !text);
        return super.visitBinary(node, p);
    }

    @Override
    public Void visitCompoundAssignment(CompoundAssignmentTree node, Void p) {
        rule(10, node, "texts joined by +=", !isText(type(node.getVariable())));
        return super.visitCompoundAssignment(node, p);
    }

    @Override
    public Void visitLiteral(LiteralTree node, Void p) {
        if (node.getValue() instanceof String) {
            for (char c : ((String) node.getValue()).toCharArray()) {
                rule(4, node, "the sign " + (int) c + " in a text", c >= 1 && c <= 127);
            }
        }
        return super.visitLiteral(node, p);
    }

    @Override
    public Void visitTypeCast(TypeCastTree node, Void p) {
        rule(6, node, "a cast of an object", type(node.getType()).getKind().isPrimitive());
        return super.visitTypeCast(node, p);
    }

    @Override
    public Void visitForLoop(ForLoopTree node, Void p) {
        loops++;
        rule(9, node, "a loop without a counter or a bound", node.getCondition() != null && node.getUpdate().size() == 1 && node.getInitializer().size() == 1);
        return super.visitForLoop(node, p);
    }

    @Override
    public Void visitWhileLoop(WhileLoopTree node, Void p) {
        rule(9, node, "a while", false);
        return super.visitWhileLoop(node, p);
    }

    @Override
    public Void visitDoWhileLoop(DoWhileLoopTree node, Void p) {
        rule(9, node, "a do", false);
        return super.visitDoWhileLoop(node, p);
    }

    @Override
    public Void visitLambdaExpression(LambdaExpressionTree node, Void p) {
        rule(2, node, "a lambda", false);
        return super.visitLambdaExpression(node, p);
    }

    @Override
    public Void visitMemberReference(MemberReferenceTree node, Void p) {
        rule(2, node, "a method reference", false);
        return super.visitMemberReference(node, p);
    }

    @Override
    public Void visitThrow(ThrowTree node, Void p) {
        rule(6, node, "throw", false);
        return super.visitThrow(node, p);
    }

    @Override
    public Void visitTry(TryTree node, Void p) {
        rule(6, node, "try", false);
        return super.visitTry(node, p);
    }

    @Override
    public Void visitCatch(CatchTree node, Void p) {
        rule(6, node, "catch", false);
        return super.visitCatch(node, p);
    }

    @Override
    public Void visitSynchronized(SynchronizedTree node, Void p) {
        rule(6, node, "synchronized", false);
        return super.visitSynchronized(node, p);
    }

    @Override
    public Void visitAssert(AssertTree node, Void p) {
        rule(6, node, "assert", false);
        return super.visitAssert(node, p);
    }

    /** Who calls whom: how deep it goes, what calls itself, and names that are both public and private. */
    private void checkCalls() {
        rule(9, null, "no loop was seen", loops > 0);
        Set<String> open = new TreeSet<>();
        Set<String> hidden = new TreeSet<>();
        List<String> recursive = new ArrayList<>();
        for (Element m : calls.keySet()) {
            if (m.getKind() == ElementKind.METHOD) {
                (m.getModifiers().contains(Modifier.PUBLIC) ? open : hidden).add(m.getSimpleName().toString());
            }
            List<Element> way = deepest(m, new ArrayList<>());
            rule(11, null, "calls go " + way.size() + " deep: " + way, way.size() <= MOST_DEEP);
            if (calls.get(m).contains(m)) {
                recursive.add(m.getSimpleName().toString());
                rule(8, null, m + " calls itself and is not private", m.getModifiers().contains(Modifier.PRIVATE));
                rule(8, null, m + " calls itself and carries no depth", !((ExecutableElement) m).getParameters().isEmpty());
            }
        }
        hidden.retainAll(open);
        rule(1, null, "names that are public ones, too: " + hidden, hidden.isEmpty());
        rule(8, null, "what calls itself: " + recursive, recursive.equals(List.of("seatFrom")));
    }

    /** The longest row of calls from a method on; what calls itself counts once. */
    private List<Element> deepest(Element m, List<Element> above) {
        List<Element> best = new ArrayList<>();
        above.add(m);
        for (Element called : calls.getOrDefault(m, Set.of())) {
            if (called.equals(m)) {
                continue;
            }
            rule(8, null, called + " is called in a round: " + above, !above.contains(called));
            List<Element> way = above.contains(called) ? List.of() : deepest(called, above);
            if (way.size() > best.size()) {
                best = new ArrayList<>(way);
            }
        }
        above.remove(above.size() - 1);
        best.add(0, m);
        return best;
    }
}
