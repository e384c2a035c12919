import com.sun.source.tree.BinaryTree;
import com.sun.source.tree.ClassTree;
import com.sun.source.tree.CompilationUnitTree;
import com.sun.source.tree.DoWhileLoopTree;
import com.sun.source.tree.ExpressionTree;
import com.sun.source.tree.ForLoopTree;
import com.sun.source.tree.IdentifierTree;
import com.sun.source.tree.ImportTree;
import com.sun.source.tree.LiteralTree;
import com.sun.source.tree.MethodInvocationTree;
import com.sun.source.tree.MethodTree;
import com.sun.source.tree.NewArrayTree;
import com.sun.source.tree.NewClassTree;
import com.sun.source.tree.Tree;
import com.sun.source.tree.TypeCastTree;
import com.sun.source.tree.VariableTree;
import com.sun.source.tree.WhileLoopTree;
import com.sun.source.util.JavacTask;
import com.sun.source.util.TreePathScanner;
import com.sun.source.util.TreeScanner;
import com.sun.source.util.Trees;
import java.nio.charset.StandardCharsets;
import java.nio.file.Files;
import java.nio.file.Path;
import java.util.ArrayList;
import java.util.HashMap;
import java.util.List;
import java.util.Map;
import java.util.Set;
import java.util.TreeSet;
import javax.lang.model.element.Element;
import javax.lang.model.element.ExecutableElement;
import javax.lang.model.element.Modifier;
import javax.lang.model.element.PackageElement;
import javax.lang.model.element.TypeElement;
import javax.lang.model.type.TypeMirror;
import javax.tools.JavaCompiler;
import javax.tools.StandardJavaFileManager;
import javax.tools.ToolProvider;

/** What the compiler's own tree of the source shows of LANGUAGE.md, rule by rule. */
public final class LanguageTest {
    private static final Path SOURCE = Path.of("src/main/java/LadleKings.java");
    private static final int DEEPEST = 8, MOST_LINES = 60, MOST_PARAMETERS = 7, MOST_CLASSES = 12, MOST_FIELDS = 20;

    /** Rule 4: what of the library the class uses; all of it stands in the rule. */
    private static final Set<String> LIBRARY = Set.of("java.lang.String.length", "java.lang.String.charAt",
        "java.lang.Math.max", "java.lang.Math.min", "java.lang.Integer.bitCount", "java.lang.System.arraycopy",
        "java.util.Arrays.fill");

    /** Rules 2, 6: trees that may not stand in the source. */
    private static final Set<Tree.Kind> RULED_OUT = Set.of(Tree.Kind.LAMBDA_EXPRESSION, Tree.Kind.MEMBER_REFERENCE,
        Tree.Kind.THROW, Tree.Kind.TRY, Tree.Kind.CATCH, Tree.Kind.SYNCHRONIZED, Tree.Kind.ASSERT,
        Tree.Kind.ANNOTATION, Tree.Kind.SWITCH_EXPRESSION, Tree.Kind.PACKAGE);

    private static final Set<String> CONSTANTS = Set.of("int", "long", "boolean", "char", "java.lang.String",
        "int[]", "long[]", "char[]", "byte[]");

    private static final Due due = new Due();

    public static void main(String[] args) throws Exception {
        JavaCompiler compiler = ToolProvider.getSystemJavaCompiler();
        try (StandardJavaFileManager files = compiler.getStandardFileManager(null, null, null)) {
            JavacTask task = (JavacTask) compiler.getTask(null, files, null, List.of("-proc:none"), null,
                files.getJavaFileObjects(SOURCE));
            Iterable<? extends CompilationUnitTree> units = task.parse();
            task.analyze();
            for (CompilationUnitTree unit : units) {
                new Rules(Trees.instance(task), unit).check();
            }
        }
        signs(Files.readString(SOURCE, StandardCharsets.ISO_8859_1));
        due.finish();
    }

    /** Rule 4: a sign of a text that is no plain one is put by its number; the rest of the source is plain as well. */
    private static void signs(String code) {
        for (int i = 0; i < code.length(); i++) {
            if (code.charAt(i) > 126) {
                due.is("rule 4: a sign beyond 126 at " + i, code.charAt(i), 126);
            }
        }
    }

    private static final class Rules extends TreePathScanner<Void, Void> {
        private final Trees trees;
        private final CompilationUnitTree unit;
        private final Map<String, Set<String>> calls = new HashMap<>();
        private final Map<String, Integer> depths = new HashMap<>();
        private final List<String> publicNames = new ArrayList<>();
        private final List<String> otherNames = new ArrayList<>();
        private int classes = 0;
        private String method = "";

        Rules(Trees trees, CompilationUnitTree unit) {
            this.trees = trees;
            this.unit = unit;
        }

        void check() {
            scan(unit, null);
            due.isTrue("rule 11: at most twelve classes", classes <= MOST_CLASSES);
            due.isTrue("methods are found", calls.size() > 80);
            for (String name : otherNames) {
                due.isTrue("rule 1: " + name + " is no public name, too", !publicNames.contains(name));
            }
            for (String from : new TreeSet<>(calls.keySet())) {
                due.isTrue("rules 8, 11: " + from + " goes no deeper than " + DEEPEST,
                    depth(from, new ArrayList<>()) <= DEEPEST);
            }
        }

        /** The calls that stand open at once, this one and those of the library among them. */
        private int depth(String from, List<String> open) {
            due.isTrue("rule 8: " + from + " does not call itself: " + open, !open.contains(from));
            if (open.contains(from)) {
                return 0;
            }
            if (!depths.containsKey(from)) {
                open.add(from);
                int deepest = 0;
                for (String to : calls.getOrDefault(from, Set.of())) {
                    deepest = Math.max(deepest, depth(to, open));
                }
                open.remove(from);
                depths.put(from, deepest + 1);
            }
            return depths.get(from);
        }

        private String at(Tree tree) {
            long position = trees.getSourcePositions().getStartPosition(unit, tree);
            return "line " + unit.getLineMap().getLineNumber(position) + ": ";
        }

        private int linesOf(Tree tree) {
            long start = trees.getSourcePositions().getStartPosition(unit, tree);
            long end = trees.getSourcePositions().getEndPosition(unit, tree);
            return (int) (unit.getLineMap().getLineNumber(end) - unit.getLineMap().getLineNumber(start)) + 1;
        }

        private static boolean isOurs(Element element) {
            Element outermost = element;
            while (outermost.getEnclosingElement() != null
                    && !(outermost.getEnclosingElement() instanceof PackageElement)) {
                outermost = outermost.getEnclosingElement();
            }
            return outermost.getSimpleName().contentEquals("LadleKings");
        }

        private static String nameOf(Element element) {
            return ((TypeElement) element.getEnclosingElement()).getQualifiedName() + "." + element.getSimpleName();
        }

        @Override
        public Void scan(Tree tree, Void none) {
            if (tree != null) {
                due.isTrue(at(tree) + "rules 2, 6: " + tree.getKind(), !RULED_OUT.contains(tree.getKind()));
            }
            return super.scan(tree, none);
        }

        @Override
        public Void visitImport(ImportTree tree, Void none) {
            due.isTrue(at(tree) + "rule 4: " + tree, tree.getQualifiedIdentifier().toString().equals("java.util.Arrays"));
            return super.visitImport(tree, none);
        }

        @Override
        public Void visitClass(ClassTree tree, Void none) {
            classes++;
            Tree around = getCurrentPath().getParentPath().getLeaf();
            boolean isOuter = around instanceof CompilationUnitTree;
            due.isTrue(at(tree) + "rule 2: a class stands in a class", isOuter || around instanceof ClassTree);
            Set<Modifier> marks = tree.getModifiers().getFlags();
            due.isTrue(at(tree) + "rule 2: a class inside is static", isOuter || marks.contains(Modifier.STATIC));
            int fields = 0;
            for (Tree member : tree.getMembers()) {
                due.isTrue(at(member) + "rule 5: no initialiser block", member.getKind() != Tree.Kind.BLOCK);
                boolean isField = member instanceof VariableTree;
                fields += isField && !((VariableTree) member).getModifiers().getFlags().contains(Modifier.STATIC) ? 1 : 0;
            }
            due.isTrue(at(tree) + "rule 11: few fields", fields <= MOST_FIELDS);
            return super.visitClass(tree, none);
        }

        @Override
        public Void visitVariable(VariableTree tree, Void none) {
            Set<Modifier> marks = tree.getModifiers().getFlags();
            boolean isField = getCurrentPath().getParentPath().getLeaf() instanceof ClassTree;
            if (isField && marks.contains(Modifier.STATIC)) {
                TypeMirror type = trees.getTypeMirror(getCurrentPath());
                due.isTrue(at(tree) + "rule 5: a static field is final", marks.contains(Modifier.FINAL));
                due.isTrue(at(tree) + "rule 5: " + type, CONSTANTS.contains(type.toString()));
            }
            return super.visitVariable(tree, none);
        }

        @Override
        public Void visitMethod(MethodTree tree, Void none) {
            ExecutableElement element = (ExecutableElement) trees.getElement(getCurrentPath());
            method = nameOf(element) + tree.getParameters().size();
            due.isTrue(at(tree) + "one method of this name", calls.put(method, new TreeSet<>()) == null);
            due.isTrue(at(tree) + "rule 11: short", linesOf(tree) <= MOST_LINES);
            due.isTrue(at(tree) + "rule 11: few parameters", tree.getParameters().size() <= MOST_PARAMETERS);
            boolean isPublic = tree.getModifiers().getFlags().contains(Modifier.PUBLIC);
            if (!tree.getName().contentEquals("<init>")) {
                (isPublic ? publicNames : otherNames).add(tree.getName().toString());
            }
            super.visitMethod(tree, none);
            method = "";
            return null;
        }

        @Override
        public Void visitMethodInvocation(MethodInvocationTree tree, Void none) {
            Element element = trees.getElement(getCurrentPath());
            String name = nameOf(element);
            boolean isOfObject = name.equals("java.lang.Object.<init>");
            due.isTrue(at(tree) + "rule 4: " + name, isOurs(element) || isOfObject || LIBRARY.contains(name));
            if (calls.containsKey(method)) {
                calls.get(method).add(name + ((ExecutableElement) element).getParameters().size());
            }
            return super.visitMethodInvocation(tree, none);
        }

        /** Stronger than rule 12: objects and rows are made with the object alone. */
        private void isMadeOnce(Tree tree) {
            due.isTrue(at(tree) + "rule 12: no call makes an object", method.isEmpty() || method.contains("<init>"));
        }

        @Override
        public Void visitNewClass(NewClassTree tree, Void none) {
            isMadeOnce(tree);
            due.isTrue(at(tree) + "rule 2: no anonymous class", tree.getClassBody() == null);
            due.isTrue(at(tree) + "rule 4: a class of our own", isOurs(trees.getElement(getCurrentPath())));
            return super.visitNewClass(tree, none);
        }

        @Override
        public Void visitNewArray(NewArrayTree tree, Void none) {
            isMadeOnce(tree);
            due.isTrue(at(tree) + "rule 3: one dimension", tree.getDimensions().size() <= 1);
            return super.visitNewArray(tree, none);
        }

        /** Rule 6: no cast of an object, so that none can fail. */
        @Override
        public Void visitTypeCast(TypeCastTree tree, Void none) {
            due.isTrue(at(tree) + "rule 6: a cast of numbers alone",
                trees.getTypeMirror(getCurrentPath()).getKind().isPrimitive());
            return super.visitTypeCast(tree, none);
        }

        /** Rule 10: texts are not joined by +. */
        @Override
        public Void visitBinary(BinaryTree tree, Void none) {
            due.isTrue(at(tree) + "rule 10: numbers and truths alone",
                trees.getTypeMirror(getCurrentPath()).getKind().isPrimitive());
            return super.visitBinary(tree, none);
        }

        /** Rule 9: a loop's end is a comparison in its own line, with no bound that is always true. */
        private void hasAnEnd(Tree loop, ExpressionTree condition) {
            boolean[] compares = {false};
            new TreeScanner<Void, Void>() {
                @Override
                public Void visitBinary(BinaryTree tree, Void none) {
                    Tree.Kind kind = tree.getKind();
                    compares[0] |= kind == Tree.Kind.LESS_THAN || kind == Tree.Kind.LESS_THAN_EQUAL
                        || kind == Tree.Kind.GREATER_THAN || kind == Tree.Kind.GREATER_THAN_EQUAL;
                    due.isTrue(at(tree) + "rule 9: no || in a loop's end", kind != Tree.Kind.CONDITIONAL_OR);
                    return super.visitBinary(tree, none);
                }

                @Override
                public Void visitLiteral(LiteralTree tree, Void none) {
                    due.isTrue(at(tree) + "rule 9: no loop without an end", !Boolean.TRUE.equals(tree.getValue()));
                    return null;
                }
            }.scan(condition, null);
            due.isTrue(at(loop) + "rule 9: a counter against a bound", compares[0]);
        }

        @Override
        public Void visitForLoop(ForLoopTree tree, Void none) {
            hasAnEnd(tree, tree.getCondition());
            return super.visitForLoop(tree, none);
        }

        @Override
        public Void visitWhileLoop(WhileLoopTree tree, Void none) {
            hasAnEnd(tree, tree.getCondition());
            return super.visitWhileLoop(tree, none);
        }

        @Override
        public Void visitDoWhileLoop(DoWhileLoopTree tree, Void none) {
            hasAnEnd(tree, tree.getCondition());
            return super.visitDoWhileLoop(tree, none);
        }

        /** Rule 12: a constructor hands out no object that is not yet made. */
        @Override
        public Void visitIdentifier(IdentifierTree tree, Void none) {
            due.isTrue(at(tree) + "rule 12: this", !tree.getName().contentEquals("this"));
            return super.visitIdentifier(tree, none);
        }
    }
}
