import com.sun.source.tree.AssertTree;
import com.sun.source.tree.BlockTree;
import com.sun.source.tree.ClassTree;
import com.sun.source.tree.CompilationUnitTree;
import com.sun.source.tree.DoWhileLoopTree;
import com.sun.source.tree.ExpressionTree;
import com.sun.source.tree.ForLoopTree;
import com.sun.source.tree.ImportTree;
import com.sun.source.tree.LambdaExpressionTree;
import com.sun.source.tree.MemberReferenceTree;
import com.sun.source.tree.MethodInvocationTree;
import com.sun.source.tree.MethodTree;
import com.sun.source.tree.NewArrayTree;
import com.sun.source.tree.NewClassTree;
import com.sun.source.tree.SynchronizedTree;
import com.sun.source.tree.ThrowTree;
import com.sun.source.tree.Tree;
import com.sun.source.tree.TryTree;
import com.sun.source.tree.TypeCastTree;
import com.sun.source.tree.VariableTree;
import com.sun.source.tree.WhileLoopTree;
import com.sun.source.util.JavacTask;
import com.sun.source.util.TreePathScanner;
import com.sun.source.util.Trees;
import java.io.IOException;
import java.nio.file.Files;
import java.nio.file.Path;
import java.util.ArrayList;
import java.util.HashMap;
import java.util.HashSet;
import java.util.List;
import java.util.Map;
import java.util.Set;
import java.util.TreeSet;
import java.util.stream.Stream;
import javax.lang.model.element.Element;
import javax.lang.model.element.ElementKind;
import javax.lang.model.element.ExecutableElement;
import javax.lang.model.element.Modifier;
import javax.lang.model.element.TypeElement;
import javax.tools.JavaCompiler;
import javax.tools.StandardJavaFileManager;
import javax.tools.ToolProvider;

/**
 * The rules of LANGUAGE.md that can be counted or looked up in the program's text. Where the program needs
 * less than a rule allows, such as no try and no while, the test holds it to the less.
 */
public final class LanguageTest extends TreePathScanner<Void, Void> {
    private static final Path PROGRAM = Path.of("src/main/java/PatternGreeter.java");
    private static final Set<String> EXCEPTIONS =
        Set.of("IllegalStateException", "IllegalArgumentException", "NoSuchElementException");
    private static final Set<String> TYPES = Set.of("int", "long", "byte", "boolean", "String", "void");

    private final Trees trees;
    private final CompilationUnitTree unit;
    private final Set<String> broken = new TreeSet<>();
    private final Set<String> ownClasses = new HashSet<>();
    /** From each method to those that it calls. */
    private final Map<Element, Set<Element>> calls = new HashMap<>();
    private final List<ExecutableElement> methods = new ArrayList<>();

    private LanguageTest(Trees trees, CompilationUnitTree unit) {
        this.trees = trees;
        this.unit = unit;
    }

    public static void main(String[] args) throws IOException {
        try (Stream<Path> files = Files.walk(Path.of("src/main"))) {
            List<Path> found = files.filter(Files::isRegularFile).toList();
            Answer.due("files of the program", found.toString(), "[" + PROGRAM + "]");
        }
        JavaCompiler compiler = ToolProvider.getSystemJavaCompiler();
        StandardJavaFileManager files = compiler.getStandardFileManager(null, null, null);
        JavacTask task = (JavacTask) compiler.getTask(null, files, null, List.of("-Xlint:all"), null,
            files.getJavaFileObjects(PROGRAM));
        CompilationUnitTree unit = task.parse().iterator().next();
        task.analyze();
        LanguageTest test = new LanguageTest(Trees.instance(task), unit);
        test.look();
        Answer.due("rules of LANGUAGE.md that are broken", test.broken.toString(), "[]");
        Answer.end();
    }

    private void look() throws IOException {
        hold(unit.getPackageName() == null, "a package line");
        hold(unit.getTypeDecls().size() == 1, "1: more than one class at the top");
        hold(Files.readString(PROGRAM).chars().allMatch(c -> c < 256), "3: characters beyond 255");
        collectClasses((ClassTree) unit.getTypeDecls().get(0));
        hold(ownClasses.size() <= 12, "11: more than twelve classes");
        scan(unit, null);
        callOverridingToo();
        for (ExecutableElement method : methods) {
            hold(depth(method, new ArrayList<>()) <= 8, "8 and 11: calls too deep below " + method);
        }
    }

    private void hold(boolean kept, String rule) {
        if (!kept) {
            broken.add(rule);
        }
    }

    private void none(String what, Tree where) {
        broken.add(what + " in line " + lineOf(trees.getSourcePositions().getStartPosition(unit, where)));
    }

    private long lineOf(long position) {
        return unit.getLineMap().getLineNumber(position);
    }

    private void collectClasses(ClassTree type) {
        ownClasses.add(type.getSimpleName().toString());
        for (Tree member : type.getMembers()) {
            if (member instanceof ClassTree inner) {
                Set<Modifier> modifiers = inner.getModifiers().getFlags();
                hold(modifiers.contains(Modifier.STATIC) && modifiers.contains(Modifier.PRIVATE),
                    "1 and 2: " + inner.getSimpleName() + " is not private and static");
                collectClasses(inner);
            }
        }
    }

    @Override
    public Void visitImport(ImportTree tree, Void none) {
        hold(tree.getQualifiedIdentifier().toString().equals("java.util.NoSuchElementException"), "4: " + tree);
        return null;
    }

    @Override
    public Void visitClass(ClassTree type, Void none) {
        int fields = 0;
        for (Tree member : type.getMembers()) {
            hold(!(member instanceof BlockTree), "5: a block among the members of " + type.getSimpleName());
            if (member instanceof VariableTree field) {
                Set<Modifier> modifiers = field.getModifiers().getFlags();
                hold(!modifiers.contains(Modifier.STATIC) || modifiers.contains(Modifier.FINAL), "5: " + field);
                fields += modifiers.contains(Modifier.STATIC) ? 0 : 1;
            }
        }
        hold(fields <= 20, "11: " + type.getSimpleName() + " has more than twenty fields");
        return super.visitClass(type, none);
    }

    @Override
    public Void visitMethod(MethodTree method, Void none) {
        ExecutableElement element = (ExecutableElement) trees.getElement(getCurrentPath());
        methods.add(element);
        hold(method.getParameters().size() <= 7, "11: more than seven parameters: " + method.getName());
        long start = trees.getSourcePositions().getStartPosition(unit, method);
        long end = trees.getSourcePositions().getEndPosition(unit, method);
        hold(lineOf(Math.max(start, end)) - lineOf(start) < 60, "11: more than sixty lines: " + method.getName());
        String name = method.getName().toString();
        hold(!isOfNested(element) || !isOfFace(name), "1: a name of the face: " + name);
        return super.visitMethod(method, none);
    }

    private static boolean isOfNested(Element element) {
        return !element.getEnclosingElement().getSimpleName().contentEquals("PatternGreeter");
    }

    private static boolean isOfFace(String name) {
        for (java.lang.reflect.Method method : PatternGreeter.class.getMethods()) {
            if (method.getDeclaringClass() == PatternGreeter.class && method.getName().equals(name)) {
                return true;
            }
        }
        return false;
    }

    @Override
    public Void visitVariable(VariableTree variable, Void none) {
        String type = variable.getType().toString();
        String single = type.replace("[]", "");
        int dimensions = (type.length() - single.length()) / 2;
        hold(TYPES.contains(single) || ownClasses.contains(single), "3: the type of " + variable);
        hold(dimensions <= 1 || dimensions == 2 && !ownClasses.contains(single), "3: the type of " + variable);
        return super.visitVariable(variable, none);
    }

    /** The method round the place that is looked at now, or null. */
    private ExecutableElement around() {
        for (var path = getCurrentPath(); path != null; path = path.getParentPath()) {
            if (path.getLeaf() instanceof MethodTree) {
                return (ExecutableElement) trees.getElement(path);
            }
        }
        return null;
    }

    private boolean isInCall() {
        ExecutableElement method = around();
        return method != null && method.getKind() != ElementKind.CONSTRUCTOR;
    }

    @Override
    public Void visitMethodInvocation(MethodInvocationTree call, Void none) {
        ExecutableElement called = (ExecutableElement) trees.getElement(getCurrentPath());
        TypeElement owner = (TypeElement) called.getEnclosingElement();
        if (ownClasses.contains(owner.getSimpleName().toString())) {
            calls.computeIfAbsent(around(), method -> new HashSet<>()).add(called);
        } else if (called.getKind() != ElementKind.CONSTRUCTOR) {
            hold((owner + "." + called.getSimpleName()).equals("java.lang.System.arraycopy"), "4: " + call);
        }
        return super.visitMethodInvocation(call, none);
    }

    @Override
    public Void visitNewClass(NewClassTree made, Void none) {
        String type = made.getIdentifier().toString();
        if (isInCall()) {
            hold(EXCEPTIONS.contains(type), "12: a call makes " + made);
        } else {
            hold(ownClasses.contains(type), "4: " + made);
        }
        hold(made.getClassBody() == null, "2: " + made);
        return super.visitNewClass(made, none);
    }

    @Override
    public Void visitNewArray(NewArrayTree made, Void none) {
        hold(!isInCall(), "12: a call makes " + made);
        return super.visitNewArray(made, none);
    }

    @Override
    public Void visitThrow(ThrowTree thrown, Void none) {
        hold(isInCall(), "6: a constructor throws");
        if (thrown.getExpression() instanceof NewClassTree made) {
            hold(EXCEPTIONS.contains(made.getIdentifier().toString()), "6: " + thrown);
            for (ExpressionTree text : made.getArguments()) {
                hold(text.getKind() == Tree.Kind.STRING_LITERAL, "6: " + thrown);
            }
        } else {
            none("6: a throw of what is not new", thrown);
        }
        return super.visitThrow(thrown, none);
    }

    @Override
    public Void visitTypeCast(TypeCastTree cast, Void none) {
        hold(TYPES.contains(cast.getType().toString()), "7: " + cast);
        return super.visitTypeCast(cast, none);
    }

    @Override
    public Void visitForLoop(ForLoopTree loop, Void none) {
        hold(loop.getCondition() != null && !loop.getUpdate().isEmpty(), "9: no end of " + loop);
        return super.visitForLoop(loop, none);
    }

    @Override
    public Void visitWhileLoop(WhileLoopTree loop, Void none) {
        none("9: while", loop);
        return null;
    }

    @Override
    public Void visitDoWhileLoop(DoWhileLoopTree loop, Void none) {
        none("9: do", loop);
        return null;
    }

    @Override
    public Void visitTry(TryTree tree, Void none) {
        none("6: try", tree);
        return null;
    }

    @Override
    public Void visitSynchronized(SynchronizedTree tree, Void none) {
        none("6: synchronized", tree);
        return null;
    }

    @Override
    public Void visitAssert(AssertTree tree, Void none) {
        none("6: assert", tree);
        return null;
    }

    @Override
    public Void visitLambdaExpression(LambdaExpressionTree tree, Void none) {
        none("2: a lambda", tree);
        return null;
    }

    @Override
    public Void visitMemberReference(MemberReferenceTree tree, Void none) {
        none("2: a method reference", tree);
        return null;
    }

    /** Who calls an abstract method may reach each method that stands in for it. */
    private void callOverridingToo() {
        for (ExecutableElement method : methods) {
            for (ExecutableElement other : methods) {
                if (standsInFor(other, method)) {
                    addBeside(method, other);
                }
            }
        }
    }

    private static boolean standsInFor(ExecutableElement other, ExecutableElement method) {
        TypeElement owner = (TypeElement) other.getEnclosingElement();
        return method.getModifiers().contains(Modifier.ABSTRACT)
            && owner.getSuperclass().equals(method.getEnclosingElement().asType())
            && method.toString().equals(other.toString());
    }

    private void addBeside(ExecutableElement method, ExecutableElement other) {
        for (Set<Element> called : calls.values()) {
            if (called.contains(method)) {
                called.add(other);
            }
        }
    }

    /** How many calls stand open at most, with this one; far too many for a recursion. */
    private int depth(Element method, List<Element> above) {
        if (above.contains(method)) {
            return 1000;
        }
        above.add(method);
        int deepest = 0;
        for (Element called : calls.getOrDefault(method, Set.of())) {
            deepest = Math.max(deepest, depth(called, above));
        }
        above.remove(above.size() - 1);
        return 1 + deepest;
    }
}
