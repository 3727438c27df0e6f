import com.sun.source.tree.BinaryTree;
import com.sun.source.tree.ClassTree;
import com.sun.source.tree.CompilationUnitTree;
import com.sun.source.tree.ImportTree;
import com.sun.source.tree.LineMap;
import com.sun.source.tree.MemberSelectTree;
import com.sun.source.tree.MethodInvocationTree;
import com.sun.source.tree.MethodTree;
import com.sun.source.tree.NewClassTree;
import com.sun.source.tree.ThrowTree;
import com.sun.source.tree.Tree;
import com.sun.source.tree.TryTree;
import com.sun.source.tree.VariableTree;
import com.sun.source.util.JavacTask;
import com.sun.source.util.TreePath;
import com.sun.source.util.TreePathScanner;
import com.sun.source.util.Trees;
import java.io.File;
import java.util.HashMap;
import java.util.HashSet;
import java.util.LinkedHashSet;
import java.util.List;
import java.util.Map;
import java.util.Set;
import javax.lang.model.element.Element;
import javax.lang.model.element.Modifier;
import javax.tools.JavaCompiler;
import javax.tools.StandardJavaFileManager;
import javax.tools.ToolProvider;

/** Rules of shared/LANGUAGE.md that the source can be asked for. */
final class LanguageTests {
    private static final Set<String> LIBRARY = Set.of("String.length", "String.charAt", "StringBuilder.append",
            "StringBuilder.charAt", "StringBuilder.length", "StringBuilder.setLength", "StringBuilder.toString",
            "ArrayList.add", "ArrayList.get", "ArrayList.set", "ArrayList.remove", "ArrayList.size", "ArrayList.clear",
            "Math.max", "Math.min", "Math.abs", "System.arraycopy", "Arrays.copyOf");
    private static final Set<String> THROWN = Set.of("IllegalStateException", "IllegalArgumentException",
            "IndexOutOfBoundsException");

    private LanguageTests() {
    }

    static void run() throws Exception {
        JavaCompiler javac = ToolProvider.getSystemJavaCompiler();
        StandardJavaFileManager files = javac.getStandardFileManager(null, null, null);
        JavacTask task = (JavacTask) javac.getTask(null, files, null, List.of("-proc:none"), null,
                files.getJavaFileObjects(new File("src/main/java/Agenttree.java")));
        CompilationUnitTree unit = task.parse().iterator().next();
        task.analyze();
        Rules rules = new Rules(Trees.instance(task), unit);
        rules.scan(unit, null);
        rules.whole();
    }

    private static final class Rules extends TreePathScanner<Void, Void> {
        private final Trees trees;
        private final CompilationUnitTree unit;
        private final LineMap lines;
        private final Map<Element, Set<Element>> calls = new HashMap<>();
        private final Set<String> face = new HashSet<>();
        private final Set<String> others = new HashSet<>();
        private int classes;
        private Element method;

        Rules(Trees trees, CompilationUnitTree unit) {
            this.trees = trees;
            this.unit = unit;
            lines = unit.getLineMap();
        }

        private long line(Tree tree, boolean isEnd) {
            long at = isEnd ? trees.getSourcePositions().getEndPosition(unit, tree)
                    : trees.getSourcePositions().getStartPosition(unit, tree);
            return lines.getLineNumber(at);
        }

        private void never(String rule, Tree tree) {
            Check.is("LANGUAGE.md: " + rule + ", line " + line(tree, false), false);
        }

        @Override
        public Void visitImport(ImportTree tree, Void p) {
            String name = tree.getQualifiedIdentifier().toString();
            Check.is("rule 4, import " + name, Set.of("java.util.ArrayList", "java.util.Arrays", "java.util.List").contains(name));
            return null;
        }

        @Override
        public Void visitClass(ClassTree tree, Void p) {
            classes++;
            int fields = 0;
            for (Tree member : tree.getMembers()) {
                if (member instanceof VariableTree) {
                    Set<Modifier> flags = ((VariableTree) member).getModifiers().getFlags();
                    boolean isStatic = flags.contains(Modifier.STATIC);
                    fields += isStatic ? 0 : 1;
                    Check.is("rule 5, static fields are final", !isStatic || flags.contains(Modifier.FINAL));
                    Check.is("rule 1, fields of the class are private", isInner() || flags.contains(Modifier.PRIVATE));
                } else if (!(member instanceof MethodTree) && !(member instanceof ClassTree)) {
                    never("rule 5, no initialiser block", member);
                }
            }
            Check.is("rule 11, fields of " + tree.getSimpleName(), fields <= 20);
            if (isInner()) {
                Check.is("rule 2, classes inside are static", tree.getModifiers().getFlags().contains(Modifier.STATIC));
            }
            return super.visitClass(tree, p);
        }

        private boolean isInner() {
            TreePath parent = getCurrentPath().getParentPath();
            return parent != null && parent.getLeaf() instanceof ClassTree;
        }

        @Override
        public Void visitMethod(MethodTree tree, Void p) {
            method = trees.getElement(getCurrentPath());
            calls.putIfAbsent(method, new LinkedHashSet<>());
            if (line(tree, false) > 0 && !tree.getName().contentEquals("<init>")) {
                Check.is("rule 11, lines of " + tree.getName(), line(tree, true) - line(tree, false) < 60);
            }
            Check.is("rule 11, parameters of " + tree.getName(), tree.getParameters().size() <= 7);
            boolean isPublic = tree.getModifiers().getFlags().contains(Modifier.PUBLIC);
            if (!tree.getName().contentEquals("<init>")) {
                (isPublic ? face : others).add(tree.getName().toString());
            }
            Set<Modifier> flags = tree.getModifiers().getFlags();
            boolean isOuter = method.getEnclosingElement().getSimpleName().contentEquals("Agenttree");
            Check.is("rule 1, the face and no other, " + tree.getName(), !isOuter || isPublic || flags.contains(Modifier.PRIVATE));
            Check.is("rule 1, the face is of the class alone", isOuter || !isPublic);
            super.visitMethod(tree, p);
            // What stands in a field's initialiser belongs to no method.
            method = null;
            return null;
        }

        @Override
        public Void visitMethodInvocation(MethodInvocationTree tree, Void p) {
            Element called = trees.getElement(new TreePath(getCurrentPath(), tree.getMethodSelect()));
            boolean isOwn = called.getEnclosingElement().toString().startsWith("Agenttree");
            if (isOwn && method != null) {
                calls.computeIfAbsent(method, m -> new LinkedHashSet<>()).add(called);
            }
            String name = called.getEnclosingElement().getSimpleName() + "." + called.getSimpleName();
            name = name.replaceFirst("^(AbstractStringBuilder|CharSequence)\\.", "StringBuilder.");
            boolean isSuper = called.getSimpleName().contentEquals("<init>");
            Check.is("rule 4, " + name + ", line " + line(tree, false), isOwn || isSuper || LIBRARY.contains(name));
            return super.visitMethodInvocation(tree, p);
        }

        @Override
        public Void visitNewClass(NewClassTree tree, Void p) {
            Element made = trees.getElement(getCurrentPath());
            if (made != null && made.getEnclosingElement().toString().startsWith("Agenttree") && method != null) {
                calls.computeIfAbsent(method, m -> new LinkedHashSet<>()).add(made);
            }
            return super.visitNewClass(tree, p);
        }

        @Override
        public Void visitThrow(ThrowTree tree, Void p) {
            boolean isNew = tree.getExpression() instanceof NewClassTree;
            String thrown = isNew ? ((NewClassTree) tree.getExpression()).getIdentifier().toString() : "";
            Check.is("rule 6, what is thrown, line " + line(tree, false), THROWN.contains(thrown));
            return super.visitThrow(tree, p);
        }

        @Override
        public Void visitBinary(BinaryTree tree, Void p) {
            if (tree.getKind() == Tree.Kind.PLUS) {
                String type = trees.getTypeMirror(getCurrentPath()).toString();
                Check.is("rule 10, no text is joined by +, line " + line(tree, false), !type.endsWith("String"));
            }
            return super.visitBinary(tree, p);
        }

        @Override
        public Void visitTry(TryTree tree, Void p) {
            never("rule 6, the program needs no try", tree);
            return super.visitTry(tree, p);
        }

        @Override
        public Void visitMemberSelect(MemberSelectTree tree, Void p) {
            String text = tree.toString();
            Check.is("rule 4, " + text, !text.matches("(Integer|Long)\\.(MAX|MIN)_VALUE"));
            return super.visitMemberSelect(tree, p);
        }

        @Override
        public Void scan(Tree tree, Void p) {
            if (tree != null && Set.of(Tree.Kind.LAMBDA_EXPRESSION, Tree.Kind.MEMBER_REFERENCE, Tree.Kind.SYNCHRONIZED,
                    Tree.Kind.ASSERT, Tree.Kind.SWITCH_EXPRESSION).contains(tree.getKind())) {
                never("rules 2 and 6, no " + tree.getKind(), tree);
            }
            return super.scan(tree, p);
        }

        void whole() {
            Check.is("rule 11, classes", classes <= 13);
            Set<String> both = new HashSet<>(face);
            both.retainAll(others);
            Check.same("rule 1, names of the face that others bear", Set.of(), both);
            for (Element one : calls.keySet()) {
                String chain = chain(one, 0);
                Check.is("rule 11, calls go at most eight deep: " + chain, chain.split(" > ").length <= 8);
            }
        }

        /** The calls that stand open at most, ending at more than 30, as recursion would. */
        private String chain(Element one, int open) {
            String longest = "";
            for (Element called : open > 30 ? Set.<Element>of() : calls.getOrDefault(one, Set.of())) {
                String chain = " > " + chain(called, open + 1);
                if (chain.split(" > ").length > longest.split(" > ").length || longest.isEmpty()) {
                    longest = chain;
                }
            }
            return one.getEnclosingElement().getSimpleName() + "." + one.getSimpleName() + longest;
        }
    }
}
