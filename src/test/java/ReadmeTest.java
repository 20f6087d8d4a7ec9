import java.io.File;
import java.io.IOException;
import java.net.URL;
import java.net.URLClassLoader;
import java.nio.file.Files;
import java.nio.file.Path;
import java.util.ArrayList;
import java.util.List;
import java.util.Set;
import java.util.TreeSet;
import java.util.function.ObjIntConsumer;
import java.util.regex.Matcher;
import java.util.regex.Pattern;
import javax.tools.ToolProvider;

/** README.md's calls, compiled as they stand there, give the answers that stand behind them; its tests are those there are. */
public final class ReadmeTest {
    private static final Checks CHECKS = new Checks();
    private static final Pattern BLOCK = Pattern.compile("(?s)```java\n(.*?)```");
    private static final Pattern CALL = Pattern.compile("(int \\w+ = )?(x\\.\\w+\\(.*?\\)); +// (-?\\d+|[A-Z]+)(:.*)?");
    private static final Pattern NEW = Pattern.compile("FoldDye x = new FoldDye\\(\\);");

    private static String readme() throws IOException {
        return Files.readString(Path.of("README.md"));
    }

    /** Each line of a block is the making of an object, or a call with its answer. */
    private static String looking(String line) {
        if (NEW.matcher(line).matches()) {
            return line;
        }
        Matcher call = CALL.matcher(line);
        CHECKS.that("a call and its answer: " + line, call.matches());
        if (!call.matches()) {
            return "";
        }
        String made = call.group(1) == null ? call.group(2) : call.group(1).replaceAll("int (\\w+) = ", "$1");
        String due = call.group(3).matches("[A-Z]+") ? "FoldDye." + call.group(3) : call.group(3);
        String ahead = call.group(1) == null ? "" : call.group(1) + call.group(2) + "; ";
        return ahead + "looked.accept(\"" + call.group(2) + "\", " + made + " - (" + due + "));";
    }

    private static String program(String block) {
        StringBuilder text = new StringBuilder("public final class ReadmeRun {\n"
            + "public static void run(java.util.function.ObjIntConsumer<String> looked) {\n");
        for (String line : block.split("\n")) {
            text.append(looking(line)).append('\n');
        }
        return text.append("}\n}\n").toString();
    }

    /** It answers how many calls were looked at. */
    private static int run(String block) throws IOException, ReflectiveOperationException {
        Path folder = Files.createTempDirectory("readme");
        Path file = Files.writeString(folder.resolve("ReadmeRun.java"), program(block));
        int failed = ToolProvider.getSystemJavaCompiler().run(null, null, null, "-proc:none",
            "-cp", System.getProperty("java.class.path"), "-d", folder.toString(), file.toString());
        CHECKS.equal("the calls compile", failed, 0);
        List<String> looked = new ArrayList<>();
        if (failed == 0) {
            ObjIntConsumer<String> look = (call, off) -> {
                looked.add(call);
                CHECKS.equal("how far " + call + " is off its answer", off, 0);
            };
            try (URLClassLoader loader = new URLClassLoader(new URL[] {folder.toUri().toURL()})) {
                loader.loadClass("ReadmeRun").getMethod("run", ObjIntConsumer.class).invoke(null, look);
            }
        }
        for (File made : folder.toFile().listFiles()) {
            Files.delete(made.toPath());
        }
        Files.delete(folder);
        return looked.size();
    }

    private static void theCalls() throws IOException, ReflectiveOperationException {
        Matcher block = BLOCK.matcher(readme());
        int looked = 0;
        while (block.find()) {
            looked += run(block.group(1));
        }
        CHECKS.that("README.md shows calls", looked > 0);
    }

    private static void theTests() throws IOException {
        Set<String> named = new TreeSet<>();
        Matcher name = Pattern.compile("(?m)^- `(\\w+Test)`").matcher(readme());
        while (name.find()) {
            named.add(name.group(1) + ".java");
        }
        Set<String> there = new TreeSet<>();
        for (String file : new File("src/test/java").list()) {
            if (file.endsWith("Test.java")) {
                there.add(file);
            }
        }
        CHECKS.that("README.md names " + there + ", not " + named, named.equals(there));
        CHECKS.that("README.md says how they are run", readme().contains("```sh\n.ci/run\n```") && new File(".ci/run").canExecute());
    }

    public static void main(String[] args) throws IOException, ReflectiveOperationException {
        theCalls();
        theTests();
        CHECKS.end();
    }
}
