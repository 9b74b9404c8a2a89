import com.sun.source.tree.ClassTree;
import com.sun.source.tree.CompilationUnitTree;
import com.sun.source.tree.MethodInvocationTree;
import com.sun.source.tree.MethodTree;
import com.sun.source.tree.NewArrayTree;
import com.sun.source.tree.NewClassTree;
import com.sun.source.tree.Tree;
import com.sun.source.tree.Tree.Kind;
import com.sun.source.tree.VariableTree;
import com.sun.source.util.JavacTask;
import com.sun.source.util.TreePathScanner;
import com.sun.source.util.Trees;
import java.io.IOException;
import java.nio.file.Path;
import java.util.ArrayDeque;
import java.util.Deque;
import java.util.EnumSet;
import java.util.HashMap;
import java.util.HashSet;
import java.util.List;
import java.util.Map;
import java.util.Set;
import java.util.TreeSet;
import javax.lang.model.element.Element;
import javax.lang.model.element.ElementKind;
import javax.lang.model.element.ExecutableElement;
import javax.lang.model.element.Modifier;
import javax.lang.model.element.NestingKind;
import javax.lang.model.element.TypeElement;
import javax.lang.model.element.VariableElement;
import javax.lang.model.type.ArrayType;
import javax.lang.model.type.TypeKind;
import javax.lang.model.type.TypeMirror;
import javax.tools.JavaCompiler;
import javax.tools.StandardJavaFileManager;
import javax.tools.ToolProvider;

/**
 * The rules of LANGUAGE.md that can be seen in the source, as the compiler reads it. Where the class
 * needs less than a rule allows (no recursion, no object made in a call), the test wants the less.
 */
public final class LanguageTest extends TreePathScanner<Void, Void> {
    private static final Check CHECK = new Check();

    private static final Set<Kind> RULED_OUT = EnumSet.of(Kind.PACKAGE, Kind.IMPORT, Kind.THROW, Kind.TRY,
        Kind.CATCH, Kind.SYNCHRONIZED, Kind.ASSERT, Kind.LAMBDA_EXPRESSION, Kind.MEMBER_REFERENCE,
        Kind.ENHANCED_FOR_LOOP, Kind.INSTANCE_OF, Kind.TYPE_CAST, Kind.SWITCH_EXPRESSION, Kind.ANNOTATION,
        Kind.STRING_LITERAL, Kind.DOUBLE_LITERAL, Kind.FLOAT_LITERAL, Kind.ERRONEOUS);

    /** What the class uses of rule 4. */
    private static final Set<String> LIBRARY = Set.of("java.lang.Math.min(int,int)", "java.lang.Math.max(int,int)",
        "java.lang.Math.abs(int)", "java.lang.System.arraycopy(java.lang.Object,int,java.lang.Object,int,int)");

    private static final int MOST_CLASSES = 12;
    private static final int MOST_FIELDS = 20;
    private static final int MOST_PARAMETERS = 7;
    private static final int MOST_LINES = 60;
    private static final int DEEPEST = 8;

    private final Trees trees;
    private final CompilationUnitTree unit;
    private final Set<String> publicNames = new TreeSet<>();
    private final Map<ExecutableElement, Set<ExecutableElement>> calls = new HashMap<>();
    private int classes = 0;

    private LanguageTest(Trees trees, CompilationUnitTree unit) {
        this.trees = trees;
        this.unit = unit;
    }

    public static void main(String[] args) throws IOException {
        CHECK.part("language");
        JavaCompiler compiler = ToolProvider.getSystemJavaCompiler();
        try (StandardJavaFileManager files = compiler.getStandardFileManager(null, null, null)) {
            JavacTask task = (JavacTask) compiler.getTask(null, files, null, List.of("-proc:none", "-Xlint:none"), null,
                files.getJavaFileObjects(Path.of("src/main/java/HeatShelves.java")));
            CompilationUnitTree unit = task.parse().iterator().next();
            task.analyze();
            new LanguageTest(Trees.instance(task), unit).check();
        }
        CHECK.end();
    }

    private void check() {
        CHECK.due("types in the file", unit.getTypeDecls().size(), 1);
        scan(unit, null);
        CHECK.holds("the file has at most 12 classes", classes <= MOST_CLASSES);
        for (ExecutableElement method : calls.keySet()) {
            boolean isPublic = method.getModifiers().contains(Modifier.PUBLIC);
            CHECK.holds(method + " has a name that no public one bears",
                isPublic || !publicNames.contains(method.getSimpleName().toString()));
            if (isPublic) {
                int depth = depthOf(method, new ArrayDeque<>());
                CHECK.holds(method + " calls " + depth + " deep, at most " + DEEPEST, depth <= DEEPEST);
            }
        }
    }

    private int depthOf(ExecutableElement method, Deque<ExecutableElement> open) {
        boolean isOpen = open.contains(method);
        CHECK.holds(method + " does not call itself", !isOpen);
        if (isOpen) {
            return 0;
        }
        open.push(method);
        int deepest = 0;
        for (ExecutableElement called : calls.getOrDefault(method, Set.of())) {
            deepest = Math.max(deepest, depthOf(called, open));
        }
        open.pop();
        return deepest + 1;
    }

    @Override
    public Void scan(Tree tree, Void unused) {
        if (tree != null) {
            CHECK.holds(tree.getKind() + " in line " + line(tree), !RULED_OUT.contains(tree.getKind()));
        }
        return super.scan(tree, unused);
    }

    @Override
    public Void visitClass(ClassTree tree, Void unused) {
        classes++;
        TypeElement type = (TypeElement) trees.getElement(getCurrentPath());
        boolean isInside = type.getNestingKind() != NestingKind.TOP_LEVEL;
        if (isInside) {
            CHECK.holds(type + " is inside the public class", type.getNestingKind() == NestingKind.MEMBER);
            CHECK.holds(type + " is private and static",
                type.getModifiers().containsAll(Set.of(Modifier.PRIVATE, Modifier.STATIC)));
        }
        int fields = 0;
        for (Element member : type.getEnclosedElements()) {
            boolean isState = member.getKind() == ElementKind.FIELD && !member.getModifiers().contains(Modifier.STATIC);
            fields += isState ? 1 : 0;
            CHECK.holds(member + " of " + type + " is private",
                !isInside || member.getModifiers().contains(Modifier.PRIVATE));
        }
        CHECK.holds(type + " has at most 20 fields", fields <= MOST_FIELDS);
        return super.visitClass(tree, unused);
    }

    @Override
    public Void visitMethod(MethodTree tree, Void unused) {
        ExecutableElement method = (ExecutableElement) trees.getElement(getCurrentPath());
        if (method.getKind() == ElementKind.METHOD) {
            calls.putIfAbsent(method, new HashSet<>());
            if (method.getModifiers().contains(Modifier.PUBLIC)) {
                publicNames.add(method.getSimpleName().toString());
            }
        }
        CHECK.holds(method + " has at most 7 parameters", tree.getParameters().size() <= MOST_PARAMETERS);
        CHECK.holds(method + " has at most 60 lines", lastLine(tree) - line(tree) < MOST_LINES);
        CHECK.holds(method + " throws nothing", tree.getThrows().isEmpty());
        return super.visitMethod(tree, unused);
    }

    @Override
    public Void visitMethodInvocation(MethodInvocationTree tree, Void unused) {
        ExecutableElement called = (ExecutableElement) trees.getElement(getCurrentPath());
        ExecutableElement caller = callHere();
        boolean isOfJava = called.getEnclosingElement().toString().startsWith("java.");
        boolean isSuper = called.getKind() == ElementKind.CONSTRUCTOR;
        if (isOfJava && !isSuper) {
            String name = called.getEnclosingElement() + "." + called;
            CHECK.holds(name + " is allowed", LIBRARY.contains(name));
        }
        if (caller == null || caller.getKind() == ElementKind.CONSTRUCTOR) {
            CHECK.holds("a constructor calls " + called, isSuper);
        } else if (!isOfJava) {
            calls.computeIfAbsent(caller, m -> new HashSet<>()).add(called);
        }
        return super.visitMethodInvocation(tree, unused);
    }

    @Override
    public Void visitNewClass(NewClassTree tree, Void unused) {
        CHECK.holds("line " + line(tree) + " makes an object in a constructor", isInConstructor());
        CHECK.holds("line " + line(tree) + " has no class of its own", tree.getClassBody() == null);
        return super.visitNewClass(tree, unused);
    }

    @Override
    public Void visitNewArray(NewArrayTree tree, Void unused) {
        CHECK.holds("line " + line(tree) + " makes an array in a constructor", isInConstructor());
        CHECK.holds("line " + line(tree) + " has one dimension", tree.getDimensions().size() <= 1);
        return super.visitNewArray(tree, unused);
    }

    @Override
    public Void visitVariable(VariableTree tree, Void unused) {
        Element variable = trees.getElement(getCurrentPath());
        CHECK.holds(variable + " in line " + line(tree) + " has an allowed type", isAllowed(variable.asType()));
        if (variable.getModifiers().contains(Modifier.STATIC)) {
            CHECK.holds(variable + " is a constant", variable.getModifiers().contains(Modifier.FINAL));
            boolean isWrittenOut = tree.getInitializer() instanceof NewArrayTree row && row.getDimensions().isEmpty();
            CHECK.holds(variable + " is written out",
                isWrittenOut || ((VariableElement) variable).getConstantValue() != null);
        }
        return super.visitVariable(tree, unused);
    }

    private static boolean isAllowed(TypeMirror type) {
        if (type.getKind() == TypeKind.ARRAY) {
            TypeMirror part = ((ArrayType) type).getComponentType();
            return part.getKind() != TypeKind.ARRAY && isAllowed(part);
        }
        return type.getKind().isPrimitive() || type.toString().startsWith("HeatShelves.");
    }

    private boolean isInConstructor() {
        ExecutableElement method = callHere();
        return method == null || method.getKind() == ElementKind.CONSTRUCTOR;
    }

    /** The method around the current place, or null in a field. */
    private ExecutableElement callHere() {
        for (Tree around : getCurrentPath()) {
            if (around instanceof MethodTree method) {
                return (ExecutableElement) trees.getElement(trees.getPath(unit, method));
            }
        }
        return null;
    }

    private long line(Tree tree) {
        return unit.getLineMap().getLineNumber(Math.max(0, trees.getSourcePositions().getStartPosition(unit, tree)));
    }

    private long lastLine(Tree tree) {
        return unit.getLineMap().getLineNumber(Math.max(0, trees.getSourcePositions().getEndPosition(unit, tree)));
    }
}
