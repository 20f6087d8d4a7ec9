import com.sun.source.tree.CompilationUnitTree;
import com.sun.source.tree.Tree;
import com.sun.source.util.JavacTask;
import com.sun.source.util.TreePath;
import com.sun.source.util.Trees;
import java.io.IOException;
import java.nio.file.Files;
import java.nio.file.Path;
import java.util.List;
import javax.lang.model.element.Element;
import javax.lang.model.type.TypeMirror;
import javax.tools.JavaCompiler;
import javax.tools.StandardJavaFileManager;
import javax.tools.ToolProvider;

/** The class's source as the compiler reads it: its tree, and what each name in it stands for. */
final class Source {
    private static final Path FILE = Path.of("src/main/java/FoldDye.java");

    final CompilationUnitTree unit;
    private final Trees trees;

    Source() throws IOException {
        JavaCompiler compiler = ToolProvider.getSystemJavaCompiler();
        try (StandardJavaFileManager files = compiler.getStandardFileManager(null, null, null)) {
            JavacTask task = (JavacTask) compiler.getTask(null, files, null, List.of("-proc:none"), null,
                files.getJavaFileObjects(FILE));
            unit = task.parse().iterator().next();
            task.analyze();
            trees = Trees.instance(task);
        }
    }

    static String text() throws IOException {
        return Files.readString(FILE);
    }

    Element meant(TreePath path) {
        return trees.getElement(path);
    }

    TypeMirror type(TreePath path) {
        return trees.getTypeMirror(path);
    }

    int firstLine(Tree tree) {
        return line(trees.getSourcePositions().getStartPosition(unit, tree));
    }

    int lastLine(Tree tree) {
        return line(trees.getSourcePositions().getEndPosition(unit, tree));
    }

    /** What the compiler itself has added stands nowhere. */
    private int line(long position) {
        return position < 0 ? 0 : (int) unit.getLineMap().getLineNumber(position);
    }
}
