import com.sun.source.tree.BinaryTree;
import com.sun.source.tree.ClassTree;
import com.sun.source.tree.CompilationUnitTree;
import com.sun.source.tree.LambdaExpressionTree;
import com.sun.source.tree.MemberReferenceTree;
import com.sun.source.tree.MethodInvocationTree;
import com.sun.source.tree.MethodTree;
import com.sun.source.tree.NewClassTree;
import com.sun.source.tree.ThrowTree;
import com.sun.source.tree.Tree;
import com.sun.source.tree.TryTree;
import com.sun.source.tree.TypeCastTree;
import com.sun.source.tree.VariableTree;
import com.sun.source.util.JavacTask;
import com.sun.source.util.TreePath;
import com.sun.source.util.TreePathScanner;
import com.sun.source.util.Trees;
import java.nio.file.Files;
import java.nio.file.Path;
import java.util.ArrayList;
import java.util.HashMap;
import java.util.HashSet;
import java.util.List;
import java.util.Map;
import java.util.Set;
import javax.lang.model.element.Element;
import javax.lang.model.element.ElementKind;
import javax.lang.model.element.ExecutableElement;
import javax.lang.model.element.Modifier;
import javax.lang.model.element.TypeElement;
import javax.lang.model.type.TypeMirror;
import javax.tools.JavaCompiler;
import javax.tools.StandardJavaFileManager;
import javax.tools.ToolProvider;

/** The rules of LANGUAGE.md on what the source says: library, types, depth of calls. */
public final class SourceTests {
    private static final Path SOURCES = Path.of("src/main/java");
    private static final int MOST_DEEP = 8;
    private static final Map<String, String> LIBRARY = Map.of(
            "java.lang.String", " length charAt isEmpty equals indexOf substring toCharArray ",
            "java.lang.StringBuilder", " append charAt setCharAt setLength deleteCharAt reverse length"
                    + " toString ",
            "java.util.ArrayList", " add get set remove size isEmpty clear ",
            "java.util.List", " add get set remove size isEmpty clear of ",
            "java.lang.System", " arraycopy ",
            "java.util.Arrays", " copyOf copyOfRange fill ",
            "java.lang.Math", " max min abs floorDiv floorMod ",
            "java.lang.Integer", " compare max min bitCount ",
            "java.lang.Long", " compare max min bitCount ");
    private static final Set<String> MADE = Set.of("java.lang.String", "java.lang.StringBuilder",
            "java.util.ArrayList");
    private static final Set<String> STATIC_TYPES = Set.of("int", "long", "boolean", "char",
            "java.lang.String", "int[]", "long[]", "char[]", "byte[]");
    private static final Set<String> PLAIN_TYPES = Set.of("int", "long", "short", "byte", "char",
            "boolean", "double", "float", "void", "java.lang.String", "java.lang.StringBuilder",
            "java.lang.Integer");

    private SourceTests() {
    }

    public static void main(String[] args) throws Exception {
        try (var files = Files.list(SOURCES)) {
            Check.due("files of the program", files.count(), 1);
        }
        JavaCompiler compiler = ToolProvider.getSystemJavaCompiler();
        StandardJavaFileManager files = compiler.getStandardFileManager(null, null, null);
        JavacTask task = (JavacTask) compiler.getTask(null, files, null, List.of("-proc:none"), null,
                files.getJavaFileObjects(SOURCES.resolve("SwarmPlanner.java")));
        CompilationUnitTree unit = task.parse().iterator().next();
        task.analyze();
        Reader reader = new Reader(Trees.instance(task));
        reader.scan(unit, null);
        reader.checkDepth();
        Check.end();
    }

    private static final class Reader extends TreePathScanner<Void, Void> {
        private final Trees trees;
        private final Map<Element, Set<Element>> calls = new HashMap<>();
        private final Set<Element> publicOnes = new HashSet<>();
        private Element caller;

        Reader(Trees trees) {
            this.trees = trees;
        }

        private Element element(Tree tree) {
            return trees.getElement(new TreePath(getCurrentPath(), tree));
        }

        private static boolean own(Element element) {
            Element outer = element;
            while (outer.getKind() != ElementKind.PACKAGE) {
                if (outer.toString().equals("SwarmPlanner")) {
                    return true;
                }
                outer = outer.getEnclosingElement();
            }
            return false;
        }

        @Override
        public Void visitMethod(MethodTree method, Void none) {
            caller = trees.getElement(getCurrentPath());
            calls.putIfAbsent(caller, new HashSet<>());
            if (caller.getModifiers().contains(Modifier.PUBLIC)) {
                publicOnes.add(caller);
            }
            super.visitMethod(method, none);
            caller = null;
            return null;
        }

        @Override
        public Void visitMethodInvocation(MethodInvocationTree call, Void none) {
            Element called = trees.getElement(getCurrentPath());
            if (own(called)) {
                calls.computeIfAbsent(caller, key -> new HashSet<>()).add(called);
            } else if (called.getKind() != ElementKind.CONSTRUCTOR) {
                String type = called.getEnclosingElement().toString().replaceAll("<.*", "");
                Check.that(type + "." + called + " is a method of the library that is allowed",
                        LIBRARY.getOrDefault(type, "").contains(" " + called.getSimpleName() + " "));
            }
            return super.visitMethodInvocation(call, none);
        }

        @Override
        public Void visitNewClass(NewClassTree made, Void none) {
            ExecutableElement constructor = (ExecutableElement) trees.getElement(getCurrentPath());
            Element type = constructor.getEnclosingElement();
            Check.that(type + " may be made", own(type)
                    || MADE.contains(((TypeElement) type).getQualifiedName().toString()));
            Check.that(type + " is made without a body", made.getClassBody() == null);
            if (own(type) && caller != null) {
                calls.get(caller).add(constructor);
            }
            return super.visitNewClass(made, none);
        }

        @Override
        public Void visitClass(ClassTree type, Void none) {
            Element element = trees.getElement(getCurrentPath());
            boolean inside = !element.toString().equals("SwarmPlanner");
            Check.that(element + " is static and no local class", !inside
                    || element.getModifiers().contains(Modifier.STATIC)
                    && element.getEnclosingElement().toString().equals("SwarmPlanner"));
            return super.visitClass(type, none);
        }

        @Override
        public Void visitVariable(VariableTree variable, Void none) {
            Element element = trees.getElement(getCurrentPath());
            Check.that("the type of " + variable, allowed(element.asType()));
            if (element.getModifiers().contains(Modifier.STATIC)) {
                Check.that(variable + " is final", element.getModifiers().contains(Modifier.FINAL));
                Check.that(variable + " may be static",
                        STATIC_TYPES.contains(element.asType().toString()));
            }
            return super.visitVariable(variable, none);
        }

        /** Arrays of two dimensions hold numbers alone. */
        private boolean allowed(TypeMirror type) {
            String name = type.toString();
            if (name.endsWith("[][]")) {
                return List.of("int[][]", "long[][]", "short[][]", "byte[][]", "char[][]").contains(name);
            }
            String part = name.replace("[]", "").replaceAll("java\\.util\\.(Array)?List<(.*)>", "$2");
            return PLAIN_TYPES.contains(part) || part.startsWith("SwarmPlanner");
        }

        @Override
        public Void visitBinary(BinaryTree both, Void none) {
            TypeMirror type = trees.getTypeMirror(getCurrentPath());
            Check.that("texts are not joined by +: " + both, !type.toString().equals("java.lang.String"));
            return super.visitBinary(both, none);
        }

        @Override
        public Void visitTypeCast(TypeCastTree cast, Void none) {
            String type = cast.getType().toString();
            Check.that("a cast to a number: " + cast, PLAIN_TYPES.contains(type) && !type.contains("."));
            return super.visitTypeCast(cast, none);
        }

        @Override
        public Void visitLambdaExpression(LambdaExpressionTree tree, Void none) {
            return forbidden(tree);
        }

        @Override
        public Void visitMemberReference(MemberReferenceTree tree, Void none) {
            return forbidden(tree);
        }

        @Override
        public Void visitTry(TryTree tree, Void none) {
            return forbidden(tree);
        }

        @Override
        public Void visitThrow(ThrowTree tree, Void none) {
            return forbidden(tree);
        }

        private Void forbidden(Tree tree) {
            Check.that("not in the language: " + tree, false);
            return null;
        }

        void checkDepth() {
            Check.due("public methods and the constructor", publicOnes.size(), 26);
            for (Element each : publicOnes) {
                int deep = deep(each, new ArrayList<>());
                Check.that(each + " goes " + deep + " deep", deep <= MOST_DEEP);
            }
        }

        private int deep(Element method, List<Element> open) {
            Check.that(method + " is no recursion: " + open, !open.contains(method));
            if (open.contains(method)) {
                return MOST_DEEP + 1;
            }
            open.add(method);
            int deepest = 0;
            for (Element called : calls.getOrDefault(method, Set.of())) {
                deepest = Math.max(deepest, deep(called, open));
            }
            open.remove(method);
            return deepest + 1;
        }
    }
}
