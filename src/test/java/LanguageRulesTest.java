import com.sun.source.tree.AssertTree;
import com.sun.source.tree.BinaryTree;
import com.sun.source.tree.ClassTree;
import com.sun.source.tree.CompilationUnitTree;
import com.sun.source.tree.CompoundAssignmentTree;
import com.sun.source.tree.ImportTree;
import com.sun.source.tree.LambdaExpressionTree;
import com.sun.source.tree.MemberReferenceTree;
import com.sun.source.tree.MethodInvocationTree;
import com.sun.source.tree.MethodTree;
import com.sun.source.tree.NewClassTree;
import com.sun.source.tree.SynchronizedTree;
import com.sun.source.tree.ThrowTree;
import com.sun.source.tree.Tree;
import com.sun.source.tree.TryTree;
import com.sun.source.tree.UnaryTree;
import com.sun.source.tree.VariableTree;
import com.sun.source.util.JavacTask;
import com.sun.source.util.TreePath;
import com.sun.source.util.TreePathScanner;
import com.sun.source.util.Trees;
import java.io.IOException;
import java.nio.file.Path;
import java.util.ArrayList;
import java.util.HashMap;
import java.util.HashSet;
import java.util.LinkedHashMap;
import java.util.LinkedHashSet;
import java.util.List;
import java.util.Map;
import java.util.Set;
import java.util.TreeSet;
import javax.lang.model.element.Element;
import javax.lang.model.element.ElementKind;
import javax.lang.model.element.Modifier;
import javax.lang.model.type.TypeKind;
import javax.lang.model.type.TypeMirror;
import javax.tools.JavaCompiler;
import javax.tools.StandardJavaFileManager;
import javax.tools.ToolProvider;

/** Those rules of LANGUAGE.md that can be seen in the source of the class, by the compiler's own tree of it. */
public final class LanguageRulesTest extends TreePathScanner<Void, Void> {
    private static final Path SOURCE = Path.of("src/main/java/LoadBook.java");
    private static final Set<String> FACE = Set.of(
        "public static final int NONE",
        "public LoadBook()",
        "public int type(long)",
        "public int wipe()",
        "public int whole(int, long)",
        "public int number(int, long, int)",
        "public int empty(int)",
        "public int formula(int)",
        "public int function()",
        "public int constant(int)",
        "public int fault()",
        "public int print(int)",
        "public int sign(int)",
        "public int take()",
        "public int recalculate()",
        "public int state(int)",
        "public long value(int)",
        "public int failure(int, int)",
        "public int done(int)",
        "public int needs(int, int)",
        "public int neededBy(int, int)",
        "public int cycle(int, int)",
        "public int trace(int, int)",
        "public long named(int, int, int)",
        "public long old(int, int, int)",
        "public int count(int)");
    private static final Set<String> LIBRARY = Set.of(
        "String.length", "String.charAt", "String.isEmpty", "String.equals", "String.indexOf", "String.substring",
        "String.toCharArray", "System.arraycopy", "Arrays.copyOf", "Arrays.copyOfRange", "Arrays.fill",
        "Math.max", "Math.min", "Math.abs", "Math.floorDiv", "Math.floorMod", "Long.bitCount", "Long.compare",
        "Integer.bitCount", "Integer.compare");
    private static final Set<String> CONSTANT_TYPES = Set.of(
        "int", "long", "boolean", "char", "java.lang.String", "int[]", "long[]", "char[]", "byte[]");
    private static final Set<String> TYPES = Set.of(
        "int", "long", "short", "byte", "char", "boolean", "double", "float", "java.lang.String");
    private static final int MOST_PARAMETERS = 7;
    private static final int MOST_LINES = 60;
    private static final int MOST_CLASSES = 12;
    private static final int MOST_FIELDS = 20;
    private static final int DEEPEST = 8;

    private final Trees trees;
    private final CompilationUnitTree unit;
    private final Map<Element, Set<Element>> calls = new LinkedHashMap<>();
    private final Set<String> face = new TreeSet<>();
    private final Set<String> publicNames = new HashSet<>();
    private final List<String> otherNames = new ArrayList<>();
    private int classes = 0;
    private int wrong = 0;

    private LanguageRulesTest(Trees trees, CompilationUnitTree unit) {
        this.trees = trees;
        this.unit = unit;
    }

    public static void main(String[] args) throws IOException {
        JavaCompiler compiler = ToolProvider.getSystemJavaCompiler();
        try (StandardJavaFileManager files = compiler.getStandardFileManager(null, null, null)) {
            JavacTask task = (JavacTask) compiler.getTask(null, files, null, List.of("-proc:none"), null,
                files.getJavaFileObjects(SOURCE.toFile()));
            CompilationUnitTree unit = task.parse().iterator().next();
            task.analyze();
            LanguageRulesTest test = new LanguageRulesTest(Trees.instance(task), unit);
            test.scan(unit, null);
            test.lookAtTheWhole();
            test.end();
        }
    }

    private void end() {
        System.out.println(wrong == 0 ? calls.size() + " methods keep to the rules" : wrong + " rules are broken");
        if (wrong != 0) {
            System.exit(1);
        }
    }

    private void hold(int rule, boolean kept, String what) {
        if (!kept) {
            wrong++;
            System.out.println("rule " + rule + ": " + what);
        }
    }

    private void refuse(int rule, Tree tree, String what) {
        hold(rule, false, what + " in line " + lineOf(trees.getSourcePositions().getStartPosition(unit, tree)));
    }

    private long lineOf(long position) {
        return unit.getLineMap().getLineNumber(position);
    }

    private Element here() {
        return trees.getElement(getCurrentPath());
    }

    private TypeMirror typeOf(Tree tree) {
        return trees.getTypeMirror(new TreePath(getCurrentPath(), tree));
    }

    private static boolean isFraction(TypeMirror type) {
        return type != null && (type.getKind() == TypeKind.DOUBLE || type.getKind() == TypeKind.FLOAT);
    }

    private static boolean isOwn(Element element) {
        Element outer = element;
        while (outer.getEnclosingElement().getKind() != ElementKind.PACKAGE) {
            outer = outer.getEnclosingElement();
        }
        return outer.getSimpleName().contentEquals("LoadBook");
    }

    // ---- the whole file

    private void lookAtTheWhole() {
        hold(0, unit.getPackageName() == null, "a package line");
        hold(0, unit.getTypeDecls().size() == 1, "one class stands in the file");
        hold(1, face.equals(FACE), "the face is " + face + ", due is " + new TreeSet<>(FACE));
        for (String name : otherNames) {
            hold(1, !publicNames.contains(name), name + " bears the name of a public method");
        }
        hold(11, classes <= MOST_CLASSES, classes + " classes");
        Map<Element, Integer> depths = new HashMap<>();
        for (Element method : calls.keySet()) {
            int depth = depthOf(method, depths);
            hold(11, depth <= DEEPEST, "calls go " + depth + " deep from " + method);
        }
    }

    /** Calls that go back to where they came from are recursion, and count once. */
    private int depthOf(Element method, Map<Element, Integer> depths) {
        Integer known = depths.get(method);
        if (known != null) {
            return known;
        }
        Set<Element> reached = reachedFrom(method);
        Set<Element> together = new LinkedHashSet<>();
        together.add(method);
        for (Element other : reached) {
            if (reachedFrom(other).contains(method)) {
                together.add(other);
            }
        }
        int deepest = 0;
        for (Element one : together) {
            for (Element called : calls.get(one)) {
                if (!together.contains(called)) {
                    deepest = Math.max(deepest, depthOf(called, depths));
                }
            }
        }
        depths.put(method, deepest + 1);
        return deepest + 1;
    }

    private Set<Element> reachedFrom(Element method) {
        Set<Element> reached = new LinkedHashSet<>();
        List<Element> left = new ArrayList<>(calls.get(method));
        while (!left.isEmpty()) {
            Element next = left.remove(left.size() - 1);
            if (reached.add(next)) {
                left.addAll(calls.get(next));
            }
        }
        return reached;
    }

    // ---- classes, methods and fields

    @Override
    public Void visitImport(ImportTree tree, Void nothing) {
        String name = tree.getQualifiedIdentifier().toString();
        if (tree.isStatic() || !Set.of("java.util.ArrayList", "java.util.Arrays", "java.util.List").contains(name)) {
            refuse(4, tree, "import of " + name);
        }
        return super.visitImport(tree, nothing);
    }

    @Override
    public Void visitClass(ClassTree tree, Void nothing) {
        classes++;
        Element own = here();
        Set<Modifier> modifiers = tree.getModifiers().getFlags();
        boolean outermost = getCurrentPath().getParentPath().getLeaf() == unit;
        boolean inClass = getCurrentPath().getParentPath().getLeaf() instanceof ClassTree;
        if (outermost) {
            hold(1, modifiers.containsAll(Set.of(Modifier.PUBLIC, Modifier.FINAL)), "the class is public and final");
        } else if (!inClass || tree.getSimpleName().isEmpty() || !own.getModifiers().contains(Modifier.STATIC)) {
            refuse(2, tree, "a class that is not static, or has no name, or stands in a method");
        } else if (modifiers.contains(Modifier.PUBLIC) || modifiers.contains(Modifier.PROTECTED)) {
            refuse(1, tree, "a class that is public or protected");
        }
        int fields = 0;
        for (Tree member : tree.getMembers()) {
            boolean isField = member instanceof VariableTree;
            if (isField && !((VariableTree) member).getModifiers().getFlags().contains(Modifier.STATIC)) {
                fields++;
            }
            if (member.getKind() == Tree.Kind.BLOCK) {
                refuse(5, member, "an initialiser block");
            }
        }
        hold(11, fields <= MOST_FIELDS, tree.getSimpleName() + " has " + fields + " fields");
        return super.visitClass(tree, nothing);
    }

    @Override
    public Void visitMethod(MethodTree tree, Void nothing) {
        Element own = here();
        calls.putIfAbsent(own, new LinkedHashSet<>());
        noteMember(own, tree);
        hold(11, tree.getParameters().size() <= MOST_PARAMETERS, tree.getName() + " takes too many parameters");
        long first = trees.getSourcePositions().getStartPosition(unit, tree);
        long last = trees.getSourcePositions().getEndPosition(unit, tree);
        if (last >= 0) {
            hold(11, lineOf(last) - lineOf(first) < MOST_LINES, tree.getName() + " is too long");
        }
        if (tree.getModifiers().getFlags().contains(Modifier.SYNCHRONIZED)) {
            refuse(6, tree, "synchronized");
        }
        return super.visitMethod(tree, nothing);
    }

    private void noteMember(Element member, Tree tree) {
        boolean ofOutermost = member.getEnclosingElement().getSimpleName().contentEquals("LoadBook");
        if (member.getModifiers().contains(Modifier.PUBLIC) && ofOutermost) {
            face.add(faceOf(member));
            publicNames.add(member.getSimpleName().toString());
        } else if (ofOutermost && !member.getModifiers().contains(Modifier.PRIVATE)) {
            refuse(1, tree, "a member that is neither public nor private");
        } else if (member.getKind() == ElementKind.METHOD) {
            otherNames.add(member.getSimpleName().toString());
        }
    }

    private static String faceOf(Element member) {
        StringBuilder s = new StringBuilder();
        for (Modifier modifier : member.getModifiers()) {
            s.append(modifier).append(' ');
        }
        if (member.getKind() == ElementKind.CONSTRUCTOR) {
            return s.append(member.toString()).toString();
        }
        String type = member.asType().toString();
        s.append(type.substring(type.indexOf(')') + 1)).append(' ');
        return s.append(member.toString().replace(",", ", ")).toString();
    }

    @Override
    public Void visitVariable(VariableTree tree, Void nothing) {
        Element own = here();
        String type = own.asType().toString();
        if (own.getKind() == ElementKind.FIELD) {
            noteMember(own, tree);
        }
        if (own.getKind() == ElementKind.FIELD && own.getModifiers().contains(Modifier.STATIC)) {
            boolean constant = own.getModifiers().contains(Modifier.FINAL) && CONSTANT_TYPES.contains(type);
            if (!constant || tree.getInitializer() == null) {
                refuse(5, tree, "static " + own);
            }
        }
        boolean twoDimensions = type.endsWith("[][]") && TYPES.contains(type.replace("[][]", ""));
        String single = type.endsWith("[]") ? type.substring(0, type.length() - 2) : type;
        if (!twoDimensions && !TYPES.contains(single) && !single.matches("LoadBook\\.\\w+")) {
            refuse(3, tree, "the type " + type);
        }
        return super.visitVariable(tree, nothing);
    }

    // ---- what stands in methods

    @Override
    public Void visitMethodInvocation(MethodInvocationTree tree, Void nothing) {
        noteCall(here(), tree);
        return super.visitMethodInvocation(tree, nothing);
    }

    @Override
    public Void visitNewClass(NewClassTree tree, Void nothing) {
        if (tree.getClassBody() != null) {
            refuse(2, tree, "a class without a name");
        }
        noteCall(here(), tree);
        return super.visitNewClass(tree, nothing);
    }

    private void noteCall(Element called, Tree tree) {
        String owner = called.getEnclosingElement().getSimpleName().toString();
        String name = owner + "." + called.getSimpleName();
        boolean hidden = called.getKind() == ElementKind.CONSTRUCTOR && owner.equals("Object");
        if (!hidden && !isOwn(called) && (!LIBRARY.contains(name) || called.asType().toString().contains("double"))) {
            refuse(4, tree, "call of " + name);
        }
        Element caller = null;
        for (TreePath path = getCurrentPath(); path != null && caller == null; path = path.getParentPath()) {
            caller = path.getLeaf() instanceof MethodTree ? trees.getElement(path) : null;
        }
        if (isOwn(called)) {
            calls.putIfAbsent(called, new LinkedHashSet<>());
            if (caller != null) {
                calls.get(caller).add(called);
            }
        }
    }

    @Override
    public Void visitBinary(BinaryTree tree, Void nothing) {
        boolean fractions = isFraction(typeOf(tree.getLeftOperand())) || isFraction(typeOf(tree.getRightOperand()));
        if (fractions && tree.getKind() == Tree.Kind.REMAINDER) {
            refuse(3, tree, "% of DOUBLES");
        }
        String type = String.valueOf(typeOf(tree));
        if (type.equals("java.lang.String")) {
            refuse(10, tree, "texts joined by +");
        }
        return super.visitBinary(tree, nothing);
    }

    @Override
    public Void visitCompoundAssignment(CompoundAssignmentTree tree, Void nothing) {
        if (isFraction(typeOf(tree.getVariable())) && tree.getKind() == Tree.Kind.REMAINDER_ASSIGNMENT) {
            refuse(3, tree, "%= of DOUBLES");
        }
        return super.visitCompoundAssignment(tree, nothing);
    }

    @Override
    public Void visitUnary(UnaryTree tree, Void nothing) {
        boolean ofNumeral = tree.getExpression().getKind() == Tree.Kind.DOUBLE_LITERAL;
        if (isFraction(typeOf(tree.getExpression())) && !ofNumeral) {
            refuse(3, tree, "a sign ahead of a DOUBLE");
        }
        return super.visitUnary(tree, nothing);
    }

    @Override
    public Void visitThrow(ThrowTree tree, Void nothing) {
        refuse(6, tree, "throw");
        return super.visitThrow(tree, nothing);
    }

    @Override
    public Void visitTry(TryTree tree, Void nothing) {
        refuse(6, tree, "try");
        return super.visitTry(tree, nothing);
    }

    @Override
    public Void visitSynchronized(SynchronizedTree tree, Void nothing) {
        refuse(6, tree, "synchronized");
        return super.visitSynchronized(tree, nothing);
    }

    @Override
    public Void visitAssert(AssertTree tree, Void nothing) {
        refuse(6, tree, "assert");
        return super.visitAssert(tree, nothing);
    }

    @Override
    public Void visitLambdaExpression(LambdaExpressionTree tree, Void nothing) {
        refuse(2, tree, "a lambda");
        return super.visitLambdaExpression(tree, nothing);
    }

    @Override
    public Void visitMemberReference(MemberReferenceTree tree, Void nothing) {
        refuse(2, tree, "a method reference");
        return super.visitMemberReference(tree, nothing);
    }
}
