import com.sun.source.tree.ClassTree;
import com.sun.source.tree.CompilationUnitTree;
import com.sun.source.tree.ExpressionTree;
import com.sun.source.tree.IdentifierTree;
import com.sun.source.tree.MemberSelectTree;
import com.sun.source.tree.MethodInvocationTree;
import com.sun.source.tree.MethodTree;
import com.sun.source.tree.Tree;
import com.sun.source.tree.VariableTree;
import com.sun.source.util.JavacTask;
import com.sun.source.util.TreeScanner;
import java.io.IOException;
import java.nio.file.Path;
import java.util.ArrayDeque;
import java.util.Deque;
import java.util.Map;
import java.util.Set;
import java.util.TreeMap;
import java.util.TreeSet;
import javax.lang.model.element.Modifier;
import javax.tools.JavaCompiler;
import javax.tools.StandardJavaFileManager;
import javax.tools.ToolProvider;

/** Those rules of LANGUAGE.md that are told by numbers (8 and 11), read from the source as the compiler parses it. */
public final class RulesTest extends Calls {
    private static final Path SOURCE = Path.of("src/main/java/RotaFathers.java");
    private static final int DEEPEST = 8, MOST_PARAMETERS = 7, MOST_CLASSES = 12, MOST_FIELDS = 20;

    // Methods of one name are taken for one: what is found is never less deep than what is.
    private static final Map<String, Set<String>> CALLED = new TreeMap<>();
    private static int classes = 0;

    public static void main(String[] args) throws IOException {
        JavaCompiler compiler = ToolProvider.getSystemJavaCompiler();
        StandardJavaFileManager files = compiler.getStandardFileManager(null, null, null);
        JavacTask task = (JavacTask) compiler.getTask(null, files, null, null, null, files.getJavaFileObjects(SOURCE));
        for (CompilationUnitTree unit : task.parse()) {
            unit.accept(new Reader(), null);
        }
        must("it has some twelve classes at most", classes > 0 && classes <= MOST_CLASSES);
        must("digest() calls about()", CALLED.getOrDefault("digest", Set.of()).contains("about"));
        for (String method : CALLED.keySet()) {
            depth(method, new ArrayDeque<>());
        }
        end();
    }

    private static void must(String what, boolean right) {
        due(0, "LANGUAGE.md: " + what, right ? 1 : 0, 1);
    }

    /** Calls "go at most eight deep"; there is no recursion in the class. */
    private static void depth(String method, Deque<String> open) {
        boolean again = open.contains(method);
        open.addLast(method);
        must("no recursion: " + open, !again);
        must("eight deep at most: " + open, open.size() <= DEEPEST);
        if (!again) {
            for (String called : CALLED.get(method)) {
                if (CALLED.containsKey(called)) {
                    depth(called, open);
                }
            }
        }
        open.removeLast();
    }

    /** Notes who calls whom, and counts what has a limit. */
    private static final class Reader extends TreeScanner<Void, Void> {
        private String method = "";

        @Override
        public Void visitClass(ClassTree c, Void none) {
            classes++;
            int fields = 0;
            for (Tree member : c.getMembers()) {
                if (member instanceof VariableTree v && !v.getModifiers().getFlags().contains(Modifier.STATIC)) {
                    fields++;
                }
            }
            must(c.getSimpleName() + " has some twenty fields at most", fields <= MOST_FIELDS);
            return super.visitClass(c, none);
        }

        @Override
        public Void visitMethod(MethodTree m, Void none) {
            method = m.getName().toString();
            CALLED.putIfAbsent(method, new TreeSet<>());
            must(method + " takes seven parameters at most", m.getParameters().size() <= MOST_PARAMETERS);
            super.visitMethod(m, none);
            method = "";
            return null;
        }

        @Override
        public Void visitMethodInvocation(MethodInvocationTree call, Void none) {
            ExpressionTree told = call.getMethodSelect();
            String name = told instanceof MemberSelectTree select ? select.getIdentifier().toString()
                : told instanceof IdentifierTree plain ? plain.getName().toString() : "";
            if (CALLED.containsKey(method) && !name.equals("super")) {
                CALLED.get(method).add(name);
            }
            return super.visitMethodInvocation(call, none);
        }
    }
}
