import com.sun.source.tree.ArrayAccessTree;
import com.sun.source.tree.AssignmentTree;
import com.sun.source.tree.BinaryTree;
import com.sun.source.tree.ClassTree;
import com.sun.source.tree.CompilationUnitTree;
import com.sun.source.tree.CompoundAssignmentTree;
import com.sun.source.tree.ExpressionTree;
import com.sun.source.tree.ForLoopTree;
import com.sun.source.tree.IdentifierTree;
import com.sun.source.tree.LiteralTree;
import com.sun.source.tree.MemberSelectTree;
import com.sun.source.tree.MethodInvocationTree;
import com.sun.source.tree.MethodTree;
import com.sun.source.tree.NewArrayTree;
import com.sun.source.tree.NewClassTree;
import com.sun.source.tree.Tree;
import com.sun.source.tree.TypeCastTree;
import com.sun.source.tree.UnaryTree;
import com.sun.source.tree.VariableTree;
import com.sun.source.util.JavacTask;
import com.sun.source.util.SourcePositions;
import com.sun.source.util.TreePath;
import com.sun.source.util.TreePathScanner;
import com.sun.source.util.Trees;
import java.io.IOException;
import java.nio.file.Path;
import java.util.HashMap;
import java.util.HashSet;
import java.util.List;
import java.util.Map;
import java.util.Set;
import java.util.TreeSet;
import javax.lang.model.element.Element;
import javax.lang.model.element.ElementKind;
import javax.lang.model.element.Modifier;
import javax.lang.model.element.TypeElement;
import javax.lang.model.type.TypeKind;
import javax.tools.JavaCompiler;
import javax.tools.StandardJavaFileManager;
import javax.tools.ToolProvider;

/**
 * LANGUAGE.md, as far as the compiler's own tree of the class can show it. The class needs less than the rules leave
 * (no String, no list, no object made outside of constructors), and this holds it to that: what it does not use need
 * not be looked at more closely.
 */
public final class LanguageTests extends TreePathScanner<Void, Void> {
    private static final Check CHECK = new Check("LanguageTests");
    private static final Set<Tree.Kind> RULED_OUT = Set.of(
        Tree.Kind.THROW, Tree.Kind.TRY, Tree.Kind.CATCH, Tree.Kind.SYNCHRONIZED, Tree.Kind.ASSERT,
        Tree.Kind.LAMBDA_EXPRESSION, Tree.Kind.MEMBER_REFERENCE, Tree.Kind.INSTANCE_OF, Tree.Kind.IMPORT,
        Tree.Kind.PACKAGE, Tree.Kind.ANNOTATION, Tree.Kind.SWITCH_EXPRESSION, Tree.Kind.STRING_LITERAL,
        Tree.Kind.NULL_LITERAL, Tree.Kind.WHILE_LOOP, Tree.Kind.DO_WHILE_LOOP, Tree.Kind.INTERFACE, Tree.Kind.ENUM,
        Tree.Kind.RECORD, Tree.Kind.FLOAT_LITERAL, Tree.Kind.DOUBLE_LITERAL, Tree.Kind.PARAMETERIZED_TYPE);
    private static final Set<TypeKind> ITEMS = Set.of(TypeKind.INT, TypeKind.LONG, TypeKind.BOOLEAN, TypeKind.CHAR);
    private static final Set<String> LIBRARY = Set.of("Math.max", "Math.min", "Math.abs");
    private static final Set<String> OF_OBJECT = Set.of("equals", "hashCode", "toString", "finalize", "clone");
    private static final int LINES_MOST = 60;
    private static final int CLASSES_MOST = 12;
    private static final int FIELDS_MOST = 20;
    private static final int PARAMETERS_MOST = 7;
    private static final int DEEP_MOST = 8;

    private final Trees trees;
    private final CompilationUnitTree unit;
    private final Map<Element, Set<Element>> calls = new HashMap<>();
    private final Map<Element, Integer> deeps = new HashMap<>();
    private final Set<String> publicNames = new TreeSet<>();
    private int classes = 0;

    private LanguageTests(Trees trees, CompilationUnitTree unit) {
        this.trees = trees;
        this.unit = unit;
        for (Tree type : unit.getTypeDecls()) {
            for (Element member : trees.getElement(trees.getPath(unit, type)).getEnclosedElements()) {
                if (member.getKind() == ElementKind.METHOD && member.getModifiers().contains(Modifier.PUBLIC)) {
                    publicNames.add(member.getSimpleName().toString());
                }
            }
        }
    }

    public static void main(String[] args) throws IOException {
        Path file = Path.of(args.length > 0 ? args[0] : "src/main/java/TenFingers.java");
        JavaCompiler compiler = ToolProvider.getSystemJavaCompiler();
        try (StandardJavaFileManager files = compiler.getStandardFileManager(null, null, null)) {
            JavacTask task = (JavacTask) compiler.getTask(null, files, null, List.of("-proc:none"), null,
                files.getJavaFileObjects(file));
            Iterable<? extends CompilationUnitTree> units = task.parse();
            task.analyze();
            for (CompilationUnitTree unit : units) {
                new LanguageTests(Trees.instance(task), unit).look();
            }
        }
        CHECK.end();
    }

    private void look() {
        scan(unit, null);
        holds("rule 11: some twelve classes at most", unit, classes <= CLASSES_MOST);
        for (Element method : calls.keySet()) {
            int deep = deepOf(method, 0);
            holds("rules 8 and 11: no recursion, calls go " + deep + " deep from " + method, unit, deep <= DEEP_MOST);
        }
    }

    /** What is found is told with its line. */
    private void holds(String rule, Tree tree, boolean kept) {
        CHECK.due(rule + ", at line " + lineOf(tree, false), 1, kept ? 1 : 0);
    }

    private long lineOf(Tree tree, boolean end) {
        SourcePositions places = trees.getSourcePositions();
        long place = end ? places.getEndPosition(unit, tree) : places.getStartPosition(unit, tree);
        return place < 0 ? 0 : unit.getLineMap().getLineNumber(place);
    }

    private Element elementOf(Tree tree) {
        return trees.getElement(new TreePath(getCurrentPath(), tree));
    }

    private TypeKind kindOf(Tree tree) {
        return trees.getTypeMirror(new TreePath(getCurrentPath(), tree)).getKind();
    }

    private static boolean isOwn(Element element) {
        for (Element at = element; at != null; at = at.getEnclosingElement()) {
            if (at.getSimpleName().contentEquals("TenFingers")) {
                return true;
            }
        }
        return false;
    }

    /** How deep calls go from here; a recursion is deeper than any bound. */
    private int deepOf(Element method, int ahead) {
        if (ahead > DEEP_MOST) {
            return DEEP_MOST + 1;
        }
        if (!deeps.containsKey(method)) {
            int deepest = 0;
            for (Element called : calls.getOrDefault(method, Set.of())) {
                deepest = Math.max(deepest, deepOf(called, ahead + 1));
            }
            deeps.put(method, deepest + 1);
        }
        return deeps.get(method);
    }

    @Override
    public Void scan(Tree tree, Void none) {
        if (tree != null) {
            holds("ruled out: " + tree.getKind(), tree, !RULED_OUT.contains(tree.getKind()));
        }
        return super.scan(tree, none);
    }

    @Override
    public Void visitClass(ClassTree tree, Void none) {
        classes++;
        Tree.Kind around = getCurrentPath().getParentPath().getLeaf().getKind();
        holds("rule 2: no local class", tree, around == Tree.Kind.COMPILATION_UNIT || around == Tree.Kind.CLASS);
        int fields = 0;
        for (Tree member : tree.getMembers()) {
            holds("rule 5: no static initialiser block, nor another", member, member.getKind() != Tree.Kind.BLOCK);
            if (member instanceof VariableTree variable
                && !variable.getModifiers().getFlags().contains(Modifier.STATIC)) {
                fields++;
            }
        }
        holds("rule 11: some twenty fields at most", tree, fields <= FIELDS_MOST);
        return super.visitClass(tree, none);
    }

    @Override
    public Void visitVariable(VariableTree tree, Void none) {
        Element variable = trees.getElement(getCurrentPath());
        if (variable.getKind() == ElementKind.FIELD && variable.getModifiers().contains(Modifier.STATIC)) {
            TypeKind kind = variable.asType().getKind();
            boolean row = kind == TypeKind.ARRAY && tree.getInitializer() instanceof NewArrayTree;
            holds("rule 5: a static field is a final constant", tree, variable.getModifiers().contains(Modifier.FINAL)
                && (ITEMS.contains(kind) || row));
        }
        return super.visitVariable(tree, none);
    }

    @Override
    public Void visitMethod(MethodTree tree, Void none) {
        Element method = trees.getElement(getCurrentPath());
        calls.computeIfAbsent(method, key -> new HashSet<>());
        holds("rule 11: at most seven parameters", tree, tree.getParameters().size() <= PARAMETERS_MOST);
        long lines = lineOf(tree, true) - lineOf(tree, false) + 1;
        holds("rule 11: " + tree.getName() + " has some sixty lines at most", tree, lines <= LINES_MOST);
        holds("rule 6: no exceptions told", tree, tree.getThrows().isEmpty());
        String name = tree.getName().toString();
        boolean hidden = method.getModifiers().contains(Modifier.PRIVATE);
        holds("rule 1: " + name + " bears no public name", tree, !hidden || !publicNames.contains(name));
        holds("rule 6: no " + name + " of its own", tree, !OF_OBJECT.contains(name));
        return super.visitMethod(tree, none);
    }

    /** The method or constructor that this stands in, or null. */
    private MethodTree around() {
        for (TreePath path = getCurrentPath(); path != null; path = path.getParentPath()) {
            if (path.getLeaf() instanceof MethodTree method) {
                return method;
            }
        }
        return null;
    }

    private void noteCall(Element called) {
        MethodTree method = around();
        if (method != null && called != null && isOwn(called)) {
            Element from = trees.getElement(trees.getPath(unit, method));
            calls.computeIfAbsent(from, key -> new HashSet<>()).add(called);
        }
    }

    @Override
    public Void visitMethodInvocation(MethodInvocationTree tree, Void none) {
        Element called = trees.getElement(getCurrentPath());
        noteCall(called);
        String name = called.getEnclosingElement().getSimpleName() + "." + called.getSimpleName();
        boolean superOfConstructor = called.getKind() == ElementKind.CONSTRUCTOR;
        holds("rule 4: " + name, tree, isOwn(called) || superOfConstructor || LIBRARY.contains(name));
        return super.visitMethodInvocation(tree, none);
    }

    @Override
    public Void visitNewClass(NewClassTree tree, Void none) {
        noteCall(trees.getElement(getCurrentPath()));
        holds("rule 2: no anonymous class", tree, tree.getClassBody() == null);
        holdsInConstructor(tree);
        return super.visitNewClass(tree, none);
    }

    @Override
    public Void visitNewArray(NewArrayTree tree, Void none) {
        if (tree.getInitializers() == null) {
            holdsInConstructor(tree);
            holds("rule 3: one dimension", tree, tree.getDimensions().size() == 1);
        } else {
            Tree parent = getCurrentPath().getParentPath().getLeaf();
            boolean field = parent instanceof VariableTree && around() == null;
            holds("rule 12: a row that is written out is a constant", tree, field);
        }
        return super.visitNewArray(tree, none);
    }

    private void holdsInConstructor(Tree tree) {
        MethodTree method = around();
        boolean made = method != null && method.getName().contentEquals("<init>");
        holds("rule 12: objects are made in constructors alone", tree, made);
    }

    @Override
    public Void visitIdentifier(IdentifierTree tree, Void none) {
        Element element = trees.getElement(getCurrentPath());
        if (element instanceof TypeElement) {
            boolean known = isOwn(element) || element.getSimpleName().contentEquals("Math");
            holds("rules 3 and 4: the type " + tree.getName(), tree, known);
        }
        return super.visitIdentifier(tree, none);
    }

    @Override
    public Void visitMemberSelect(MemberSelectTree tree, Void none) {
        Element element = trees.getElement(getCurrentPath());
        boolean length = tree.getIdentifier().contentEquals("length");
        holds("rule 4: " + tree, tree, length || isOwn(element) || LIBRARY.contains(tree.toString()));
        return super.visitMemberSelect(tree, none);
    }

    @Override
    public Void visitTypeCast(TypeCastTree tree, Void none) {
        holds("rule 6: a cast to a number alone", tree, kindOf(tree.getType()).isPrimitive());
        return super.visitTypeCast(tree, none);
    }

    @Override
    public Void visitBinary(BinaryTree tree, Void none) {
        boolean numbers = kindOf(tree.getLeftOperand()).isPrimitive() && kindOf(tree.getRightOperand()).isPrimitive();
        holds("rules 6 and 10: no texts joined, no objects compared", tree, numbers);
        if (tree.getKind() == Tree.Kind.DIVIDE || tree.getKind() == Tree.Kind.REMAINDER) {
            holds("rule 7: the divisor " + tree.getRightOperand() + " is looked at", tree, isLookedAt(tree));
        }
        return super.visitBinary(tree, none);
    }

    /** A divisor above 0 by what it is written as, or one that its method has compared with a number ahead of it. */
    private boolean isLookedAt(BinaryTree division) {
        ExpressionTree divisor = division.getRightOperand();
        Set<String> names = new TreeSet<>();
        new TreePathScanner<Void, Void>() {
            @Override
            public Void visitIdentifier(IdentifierTree name, Void none) {
                Element element = trees.getElement(getCurrentPath());
                boolean constant = element.getModifiers().contains(Modifier.STATIC)
                    && element.getModifiers().contains(Modifier.FINAL);
                if (!constant) {
                    names.add(name.getName().toString());
                }
                return null;
            }
        }.scan(new TreePath(getCurrentPath(), divisor), null);
        MethodTree method = around();
        if (names.isEmpty() || method == null) {
            return names.isEmpty() && !divisor.toString().equals("0");
        }
        String ahead = method.toString();
        ahead = ahead.substring(0, ahead.indexOf(division.toString()));
        for (String name : names) {
            if (!ahead.contains("if (" + name + " < 1")) {
                return false;
            }
        }
        return true;
    }

    @Override
    public Void visitLiteral(LiteralTree tree, Void none) {
        boolean sign = tree.getValue() instanceof Character c && (c < 1 || c > 127);
        holds("rule 4: a sign is 1 to 127", tree, !sign);
        return super.visitLiteral(tree, none);
    }

    @Override
    public Void visitForLoop(ForLoopTree tree, Void none) {
        String update = tree.getUpdate().size() == 1 ? tree.getUpdate().get(0).toString() : "";
        boolean counts = tree.getCondition() != null && update.matches("\\w+(\\+\\+|--);");
        holds("rule 9: the end of a loop is seen", tree, counts);
        String counter = "\\b" + update.replaceAll("\\W", "") + "\\b";
        String written = "(?s).*(" + counter + " *(\\+\\+|--|(<<|>>>?|[-+*/%&|^])?=[^=])|(\\+\\+|--)" + counter + ").*";
        holds("rule 9: its counter is its own", tree, !tree.getStatement().toString().matches(written));
        return super.visitForLoop(tree, none);
    }

    /** Rule 5: nothing is written to a static row. */
    private void holdsWritten(ExpressionTree target) {
        if (target instanceof ArrayAccessTree access) {
            Element row = elementOf(access.getExpression());
            holds("rule 5: " + target + " is no constant", target,
                row != null && !row.getModifiers().contains(Modifier.STATIC));
        }
    }

    @Override
    public Void visitAssignment(AssignmentTree tree, Void none) {
        holdsWritten(tree.getVariable());
        return super.visitAssignment(tree, none);
    }

    @Override
    public Void visitCompoundAssignment(CompoundAssignmentTree tree, Void none) {
        holdsWritten(tree.getVariable());
        return super.visitCompoundAssignment(tree, none);
    }

    @Override
    public Void visitUnary(UnaryTree tree, Void none) {
        if (!Set.of(Tree.Kind.LOGICAL_COMPLEMENT, Tree.Kind.UNARY_MINUS, Tree.Kind.BITWISE_COMPLEMENT)
                .contains(tree.getKind())) {
            holdsWritten(tree.getExpression());
        }
        return super.visitUnary(tree, none);
    }
}
