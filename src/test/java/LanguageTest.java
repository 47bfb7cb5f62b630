import com.sun.source.tree.AssertTree;
import com.sun.source.tree.ClassTree;
import com.sun.source.tree.CompilationUnitTree;
import com.sun.source.tree.ImportTree;
import com.sun.source.tree.LambdaExpressionTree;
import com.sun.source.tree.LiteralTree;
import com.sun.source.tree.MemberReferenceTree;
import com.sun.source.tree.MethodInvocationTree;
import com.sun.source.tree.MethodTree;
import com.sun.source.tree.NewArrayTree;
import com.sun.source.tree.NewClassTree;
import com.sun.source.tree.PackageTree;
import com.sun.source.tree.SynchronizedTree;
import com.sun.source.tree.ThrowTree;
import com.sun.source.tree.Tree;
import com.sun.source.tree.TryTree;
import com.sun.source.tree.VariableTree;
import com.sun.source.util.JavacTask;
import com.sun.source.util.TreePathScanner;
import com.sun.source.util.Trees;
import java.io.IOException;
import java.nio.file.Files;
import java.nio.file.Path;
import java.util.HashMap;
import java.util.HashSet;
import java.util.List;
import java.util.Map;
import java.util.Set;
import java.util.TreeMap;
import java.util.TreeSet;
import javax.lang.model.element.Element;
import javax.lang.model.element.ElementKind;
import javax.lang.model.element.ExecutableElement;
import javax.lang.model.element.Modifier;
import javax.tools.JavaCompiler;
import javax.tools.StandardJavaFileManager;
import javax.tools.ToolProvider;

/** The rules of LANGUAGE.md that can be seen in the compiler's tree of the class, by their numbers. */
public final class LanguageTest {
    private static final Path PROGRAM = Path.of("src/main/java/ShapeMoves.java");
    /** All of the library that the class may take: rule 4 has more, but it needs no more. */
    private static final Set<String> LIBRARY = Set.of("System.arraycopy", "Math.min", "Math.max", "Math.abs",
            "Integer.bitCount");
    private static final Set<String> TYPES = Set.of("int", "long", "byte", "short", "char", "boolean", "int[]",
            "long[]", "byte[]", "short[]", "boolean[]");
    private static final Set<String> CONSTANTS = Set.of("int", "long", "boolean", "int[]", "long[]", "byte[]");
    private static final Set<String> NOT_OWN = Set.of("equals", "hashCode", "toString", "finalize", "clone");
    private static final Set<Modifier> FINE = Set.of(Modifier.PUBLIC, Modifier.PRIVATE, Modifier.STATIC, Modifier.FINAL);
    private static final int DEEPEST = 8;
    private static final int LONGEST = 60;
    private static final int MOST_PARAMETERS = 7;
    private static final int MOST_CLASSES = 12;
    private static final int MOST_FIELDS = 20;

    private static final Due due = new Due("LanguageTest");

    public static void main(String[] args) throws IOException {
        JavaCompiler compiler = ToolProvider.getSystemJavaCompiler();
        try (StandardJavaFileManager files = compiler.getStandardFileManager(null, null, null)) {
            JavacTask task = (JavacTask) compiler.getTask(null, files, null, List.of("--release", "17"), null,
                    files.getJavaFileObjects(PROGRAM));
            CompilationUnitTree unit = task.parse().iterator().next();
            task.analyze();
            Looker looker = new Looker(Trees.instance(task), unit);
            looker.scan(unit, null);
            looker.end();
        }
        due.promise("LANGUAGE.md 3");
        due.is("signs that aren't 1 to 127", Files.readString(PROGRAM).chars().filter(c -> c < 1 || c > 127).count(), 0);
        due.end();
    }

    private static final class Looker extends TreePathScanner<Void, Void> {
        private final Trees trees;
        private final CompilationUnitTree unit;
        private final Map<Element, Set<Element>> calls = new HashMap<>();
        private final Map<Element, Integer> depths = new HashMap<>();
        private final Set<Element> open = new HashSet<>();
        private final TreeMap<String, Integer> fields = new TreeMap<>();
        private final TreeSet<String> faceNames = new TreeSet<>();
        private final TreeSet<String> ownNames = new TreeSet<>();
        private Element method = null;
        private int classes = 0;

        Looker(Trees trees, CompilationUnitTree unit) {
            this.trees = trees;
            this.unit = unit;
        }

        private Element here() {
            return trees.getElement(getCurrentPath());
        }

        private String at(Tree tree) {
            long from = trees.getSourcePositions().getStartPosition(unit, tree);
            return " at line " + unit.getLineMap().getLineNumber(from);
        }

        private void not(String rule, String what, Tree tree) {
            due.promise("LANGUAGE.md " + rule);
            due.is(what + at(tree), 1, 0);
        }

        private void is(String rule, String what, boolean isSo) {
            due.promise("LANGUAGE.md " + rule);
            due.is(what, isSo ? 1 : 0, 1);
        }

        // ---- what may not stand in it

        @Override
        public Void visitThrow(ThrowTree tree, Void none) {
            not("6", "throw", tree);
            return super.visitThrow(tree, none);
        }

        @Override
        public Void visitTry(TryTree tree, Void none) {
            not("6", "try", tree);
            return super.visitTry(tree, none);
        }

        @Override
        public Void visitSynchronized(SynchronizedTree tree, Void none) {
            not("6", "synchronized", tree);
            return super.visitSynchronized(tree, none);
        }

        @Override
        public Void visitAssert(AssertTree tree, Void none) {
            not("6", "assert", tree);
            return super.visitAssert(tree, none);
        }

        @Override
        public Void visitLambdaExpression(LambdaExpressionTree tree, Void none) {
            not("2", "a lambda", tree);
            return super.visitLambdaExpression(tree, none);
        }

        @Override
        public Void visitMemberReference(MemberReferenceTree tree, Void none) {
            not("2", "a method reference", tree);
            return super.visitMemberReference(tree, none);
        }

        @Override
        public Void visitPackage(PackageTree tree, Void none) {
            not("the first words", "a package line", tree);
            return super.visitPackage(tree, none);
        }

        @Override
        public Void visitImport(ImportTree tree, Void none) {
            not("4", "an import", tree);
            return super.visitImport(tree, none);
        }

        @Override
        public Void visitLiteral(LiteralTree tree, Void none) {
            if (tree.getValue() instanceof String) {
                not("3", "a text", tree);
            }
            return super.visitLiteral(tree, none);
        }

        // ---- classes and fields

        @Override
        public Void visitClass(ClassTree tree, Void none) {
            Element element = here();
            Set<Modifier> modifiers = element.getModifiers();
            classes++;
            boolean isOutside = element.getSimpleName().contentEquals("ShapeMoves");
            is("1", "ShapeMoves alone is public: " + element, modifiers.contains(Modifier.PUBLIC) == isOutside);
            is("2", element + " is static", isOutside || modifiers.contains(Modifier.STATIC));
            is("2", element + " has no name of its own", !element.getSimpleName().toString().isEmpty());
            return super.visitClass(tree, none);
        }

        @Override
        public Void visitVariable(VariableTree tree, Void none) {
            Element element = here();
            isFineType(element + at(tree), element.asType().toString());
            is("5", element + at(tree) + " is plain", FINE.containsAll(element.getModifiers()));
            if (element.getKind() == ElementKind.FIELD) {
                boolean isStatic = element.getModifiers().contains(Modifier.STATIC);
                String type = element.asType().toString();
                is("5", element + " is final, if static", !isStatic || element.getModifiers().contains(Modifier.FINAL));
                is("5", element + " is a constant of a fine type: " + type, !isStatic || CONSTANTS.contains(type));
                fields.merge(element.getEnclosingElement().toString(), isStatic ? 0 : 1, Integer::sum);
            }
            return super.visitVariable(tree, none);
        }

        /** Rule 3 has more types, but the class needs no more. */
        private void isFineType(String what, String type) {
            is("3", what + " is of a fine type: " + type, isFine(type));
        }

        private static boolean isFine(String type) {
            return type.startsWith("ShapeMoves") || TYPES.contains(type);
        }

        // ---- methods and calls

        @Override
        public Void visitMethod(MethodTree tree, Void none) {
            Element outside = method;
            method = here();
            calls.put(method, new HashSet<>());
            boolean isFace = method.getModifiers().contains(Modifier.PUBLIC);
            if (method.getKind() == ElementKind.METHOD) {
                String name = method.getSimpleName().toString();
                (isFace ? faceNames : ownNames).add(name);
                is("6", name + " is no method of every object", !NOT_OWN.contains(name));
                String type = ((ExecutableElement) method).getReturnType().toString();
                is("3", name + " answers a fine type: " + type, type.equals("void") || isFine(type));
            }
            is("6", method + " is plain", FINE.containsAll(method.getModifiers()));
            is("1", method + " is public in ShapeMoves alone",
                    !isFace || method.getEnclosingElement().getSimpleName().contentEquals("ShapeMoves"));
            is("11", method + " takes few parameters", tree.getParameters().size() <= MOST_PARAMETERS);
            is("11", method + " is short", lines(tree) <= LONGEST);
            is("6", method + " says nothing of exceptions", tree.getThrows().isEmpty());
            super.visitMethod(tree, none);
            method = outside;
            return null;
        }

        private long lines(Tree tree) {
            long from = trees.getSourcePositions().getStartPosition(unit, tree);
            long to = trees.getSourcePositions().getEndPosition(unit, tree);
            return unit.getLineMap().getLineNumber(to) - unit.getLineMap().getLineNumber(from) + 1;
        }

        @Override
        public Void visitMethodInvocation(MethodInvocationTree tree, Void none) {
            ExecutableElement called = (ExecutableElement) here();
            String owner = called.getEnclosingElement().toString();
            if (owner.startsWith("ShapeMoves")) {
                if (method != null) {
                    calls.get(method).add(called);
                }
            } else if (called.getKind() != ElementKind.CONSTRUCTOR) {
                String name = called.getEnclosingElement().getSimpleName() + "." + called.getSimpleName();
                is("4", name + at(tree) + " is of the library that it may take", LIBRARY.contains(name));
            }
            return super.visitMethodInvocation(tree, none);
        }

        @Override
        public Void visitNewClass(NewClassTree tree, Void none) {
            is("2", "a class without a name" + at(tree), tree.getClassBody() == null);
            isMadeAtFirst(tree);
            return super.visitNewClass(tree, none);
        }

        @Override
        public Void visitNewArray(NewArrayTree tree, Void none) {
            isMadeAtFirst(tree);
            return super.visitNewArray(tree, none);
        }

        /** All calls share one room: what a call needs is made by a constructor or with a field. */
        private void isMadeAtFirst(Tree tree) {
            is("12", "no call makes what is made" + at(tree),
                    method == null || method.getKind() == ElementKind.CONSTRUCTOR);
        }

        // ---- what all of it tells

        void end() {
            is("11", "few classes: " + classes, classes <= MOST_CLASSES);
            for (Map.Entry<String, Integer> entry : fields.entrySet()) {
                is("11", "few fields: " + entry, entry.getValue() <= MOST_FIELDS);
            }
            int deepest = 0;
            for (Element from : calls.keySet()) {
                deepest = Math.max(deepest, depth(from));
            }
            is("11", "calls go at most eight deep: " + deepest, deepest <= DEEPEST);
            for (String name : ownNames) {
                is("1", name + " is no public method's name", !faceNames.contains(name));
            }
            is("1", "there are calls: " + faceNames.size(), faceNames.size() == 35);
        }

        /** Of a method that calls itself, or one that calls it, there is no depth. */
        private int depth(Element from) {
            if (depths.containsKey(from)) {
                return depths.get(from);
            }
            is("8", from + " is no recursion", open.add(from));
            int depth = 0;
            for (Element to : calls.getOrDefault(from, Set.of())) {
                if (!open.contains(to)) {
                    depth = Math.max(depth, depth(to));
                } else {
                    is("8", to + " is called by what it calls", false);
                }
            }
            open.remove(from);
            depths.put(from, depth + 1);
            return depth + 1;
        }
    }
}
