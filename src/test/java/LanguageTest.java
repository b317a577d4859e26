import com.sun.source.tree.*;
import com.sun.source.util.JavacTask;
import com.sun.source.util.TreePath;
import com.sun.source.util.TreePathScanner;
import com.sun.source.util.Trees;
import java.io.File;
import java.lang.reflect.Field;
import java.lang.reflect.Method;
import java.lang.reflect.Modifier;
import java.util.ArrayList;
import java.util.Arrays;
import java.util.HashMap;
import java.util.HashSet;
import java.util.List;
import java.util.Map;
import java.util.Set;
import java.util.TreeSet;
import javax.lang.model.element.Element;
import javax.lang.model.element.ElementKind;
import javax.lang.model.element.ExecutableElement;
import javax.tools.JavaCompiler;
import javax.tools.StandardJavaFileManager;
import javax.tools.ToolProvider;

/** The rules of LANGUAGE.md that can be seen in the source's tree and in the compiled face. */
public final class LanguageTest {
    private static final String SOURCE = "src/main/java/SpokenBooks.java";
    private static final String[] FACE = {
        "all(int,int)", "ask(int,int)", "back(int)", "copy(int)", "copyOf(int,int)", "count(int)", "day()", "end(int)",
        "error(int,int,int,int)", "errorOf(int,int)", "fault()", "feed(long)", "habit(int,int)", "known(int,int)",
        "lay(int,int,int)", "led(int,int)", "listener(int,int)", "lose(int)", "may(int,int)", "parcels(int)",
        "program(int,int,int,int,int,int)", "queue(int,int)", "reader(int)", "request(int,int)", "rule(int)", "rules()",
        "serve()", "sheet(int,int,int)", "side(int,int)", "sides(int,int,int,int,int)", "title(int,int,int)",
        "titleOf(int,int)", "told(int,int)", "unask(int)",
    };
    private static final Set<String> LIBRARY = Set.of("java.lang.String.charAt", "java.util.Arrays.fill",
        "java.lang.Integer.bitCount", "java.lang.Object.<init>");
    private static int wrong;

    private static void must(boolean holds, String rule) {
        if (!holds) {
            wrong++;
            System.out.println(rule);
        }
    }

    public static void main(String[] args) throws Exception {
        theFace();
        JavaCompiler compiler = ToolProvider.getSystemJavaCompiler();
        try (StandardJavaFileManager files = compiler.getStandardFileManager(null, null, null)) {
            JavacTask task = (JavacTask) compiler.getTask(null, files, null, List.of("-proc:none"), null,
                files.getJavaFileObjects(new File(SOURCE)));
            CompilationUnitTree unit = task.parse().iterator().next();
            task.analyze();
            Reader reader = new Reader(Trees.instance(task), unit);
            reader.scan(unit, null);
            reader.judge();
        }
        System.out.println(wrong == 0 ? "the source keeps the rules that were looked at" : wrong + " rules are broken");
        if (wrong != 0) {
            System.exit(1);
        }
    }

    private static void theFace() {
        Set<String> found = new TreeSet<>();
        for (Method m : SpokenBooks.class.getDeclaredMethods()) {
            if (!Modifier.isPrivate(m.getModifiers())) {
                StringBuilder text = new StringBuilder(m.getName()).append('(');
                for (Class<?> type : m.getParameterTypes()) {
                    text.append(text.charAt(text.length() - 1) == '(' ? "" : ",").append(type.getName());
                }
                found.add(text.append(')').toString());
                must(m.getReturnType() == int.class && m.getModifiers() == Modifier.PUBLIC, "1: " + m);
            }
        }
        must(found.equals(new TreeSet<>(Arrays.asList(FACE))), "1: the face is " + found);
        Set<String> constants = new TreeSet<>();
        for (Field f : SpokenBooks.class.getDeclaredFields()) {
            if (!Modifier.isPrivate(f.getModifiers())) {
                constants.add(f.getName());
            }
        }
        must(constants.equals(Set.of("BAD", "STATE", "FULL", "NONE")), "1: the constants are " + constants);
        must(SpokenBooks.class.getDeclaredConstructors().length == 1
            && SpokenBooks.class.getConstructors().length == 1
            && Modifier.isFinal(SpokenBooks.class.getModifiers()), "1: one public constructor of a final class");
    }

    /** Walks the tree, notes what is forbidden, and who calls whom. */
    private static final class Reader extends TreePathScanner<Void, Void> {
        private final Trees trees;
        private final CompilationUnitTree unit;
        private final Map<ExecutableElement, Set<ExecutableElement>> calls = new HashMap<>();
        private final Set<String> publicNames = new HashSet<>();
        private final List<ExecutableElement> hidden = new ArrayList<>();
        private ExecutableElement current;
        private int classes;

        Reader(Trees trees, CompilationUnitTree unit) {
            this.trees = trees;
            this.unit = unit;
        }

        private void refuse(int rule, Tree tree) {
            long at = trees.getSourcePositions().getStartPosition(unit, tree);
            must(false, rule + ": line " + unit.getLineMap().getLineNumber(at) + ": " + tree.getKind());
        }

        private long lines(Tree tree) {
            LineMap map = unit.getLineMap();
            return map.getLineNumber(trees.getSourcePositions().getEndPosition(unit, tree))
                - map.getLineNumber(trees.getSourcePositions().getStartPosition(unit, tree)) + 1;
        }

        @Override public Void scan(Tree tree, Void nothing) {
            if (tree != null) {
                switch (tree.getKind()) {
                    case THROW: case TRY: case CATCH: case SYNCHRONIZED: case ASSERT: refuse(6, tree); break;
                    case LAMBDA_EXPRESSION: case MEMBER_REFERENCE: refuse(2, tree); break;
                    default: break;
                }
            }
            return super.scan(tree, nothing);
        }

        @Override public Void visitImport(ImportTree tree, Void nothing) {
            must(tree.getQualifiedIdentifier().toString().equals("java.util.Arrays"), "4: " + tree);
            return null;
        }

        @Override public Void visitClass(ClassTree tree, Void nothing) {
            classes++;
            boolean nested = getCurrentPath().getParentPath().getLeaf() instanceof ClassTree;
            boolean isStatic = tree.getModifiers().getFlags().contains(javax.lang.model.element.Modifier.STATIC);
            if (nested != isStatic) {
                refuse(2, tree);
            }
            int fields = 0;
            for (Tree member : tree.getMembers()) {
                if (member instanceof VariableTree field
                        && !field.getModifiers().getFlags().contains(javax.lang.model.element.Modifier.STATIC)) {
                    fields++;
                }
                if (member instanceof BlockTree) {
                    refuse(5, member);
                }
            }
            must(fields <= 20, "11: " + tree.getSimpleName() + " has " + fields + " fields");
            return super.visitClass(tree, nothing);
        }

        @Override public Void visitMethod(MethodTree tree, Void nothing) {
            ExecutableElement before = current;
            current = (ExecutableElement) trees.getElement(getCurrentPath());
            calls.put(current, new HashSet<>());
            boolean isPublic = current.getModifiers().contains(javax.lang.model.element.Modifier.PUBLIC);
            if (isPublic) {
                publicNames.add(current.getSimpleName().toString());
            } else if (current.getKind() == ElementKind.METHOD) {
                hidden.add(current);
            }
            must(tree.getParameters().size() <= 7, "11: parameters of " + current);
            must(lines(tree) <= 60, "11: " + lines(tree) + " lines of " + current);
            super.visitMethod(tree, nothing);
            current = before;
            return null;
        }

        @Override public Void visitVariable(VariableTree tree, Void nothing) {
            Set<javax.lang.model.element.Modifier> flags = tree.getModifiers().getFlags();
            if (flags.contains(javax.lang.model.element.Modifier.STATIC)
                    && !flags.contains(javax.lang.model.element.Modifier.FINAL)) {
                refuse(5, tree);
            }
            return super.visitVariable(tree, nothing);
        }

        @Override public Void visitNewClass(NewClassTree tree, Void nothing) {
            made(tree);
            return super.visitNewClass(tree, nothing);
        }

        @Override public Void visitNewArray(NewArrayTree tree, Void nothing) {
            made(tree);
            return super.visitNewArray(tree, nothing);
        }

        /** All that is made is made with the object: calls make nothing. */
        private void made(Tree tree) {
            if (current != null) {
                refuse(12, tree);
            }
        }

        @Override public Void visitMethodInvocation(MethodInvocationTree tree, Void nothing) {
            Element called = trees.getElement(new TreePath(getCurrentPath(), tree.getMethodSelect()));
            String owner = called.getEnclosingElement().toString();
            if (!owner.startsWith("SpokenBooks")) {
                must(LIBRARY.contains(owner + "." + called.getSimpleName()), "4: " + owner + "." + called);
            }
            if (current != null) {
                calls.get(current).add((ExecutableElement) called);
            }
            return super.visitMethodInvocation(tree, nothing);
        }

        void judge() {
            must(classes <= 12, "11: " + classes + " classes");
            for (ExecutableElement method : hidden) {
                must(!publicNames.contains(method.getSimpleName().toString()), "1: " + method + " bears a public name");
            }
            for (ExecutableElement method : calls.keySet()) {
                int deep = depth(method, new HashSet<>());
                must(deep <= 8, "11: " + method + " goes " + deep + " calls deep");
            }
        }

        private int depth(ExecutableElement method, Set<ExecutableElement> open) {
            if (!calls.containsKey(method) || !open.add(method)) {
                return 0;
            }
            int most = 0;
            for (ExecutableElement called : calls.get(method)) {
                most = Math.max(most, depth(called, open));
            }
            open.remove(method);
            return most + 1;
        }
    }
}
