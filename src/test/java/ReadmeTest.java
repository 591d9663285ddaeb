import java.io.StringWriter;
import java.lang.reflect.Method;
import java.net.URI;
import java.net.URL;
import java.net.URLClassLoader;
import java.nio.file.Files;
import java.nio.file.Path;
import java.util.List;
import java.util.Set;
import java.util.TreeSet;
import java.util.regex.Matcher;
import java.util.regex.Pattern;
import javax.tools.JavaCompiler;
import javax.tools.SimpleJavaFileObject;
import javax.tools.ToolProvider;

/** README.md says how the class is used: its lines of Java are compiled and run, each answer is due as it stands there. */
public final class ReadmeTest extends Due {
    private static final Pattern CALL = Pattern.compile("(x\\.\\w+\\([^;]*\\));\\s*// (-?\\d+|NONE|BAD|STATE|FULL)\\b.*");

    private static final Set<String> called = new TreeSet<>();

    public static void main(String[] args) throws Exception {
        Path made = Files.createTempDirectory("readme");
        compile(source(Files.readString(Path.of("README.md"))), made);
        try (URLClassLoader loader = new URLClassLoader(new URL[] {made.toUri().toURL()})) {
            Method run = loader.loadClass("ReadmeLines").getMethod("run");
            run.invoke(null);
        } finally {
            Files.deleteIfExists(made.resolve("ReadmeLines.class"));
            Files.deleteIfExists(made);
        }
        due("calls of the face that README.md shows", called.size(), 33);
        end();
    }

    /** What the compiled lines call: Due's own methods are not open to them. */
    public static void answered(String line, int got, int want) {
        due(line, got, want);
    }

    private static String source(String page) {
        StringBuilder text = new StringBuilder("public class ReadmeLines {\n");
        for (String name : List.of("NONE", "BAD", "STATE", "FULL")) {
            text.append("static final int ").append(name).append(" = StoneWed.").append(name).append(";\n");
        }
        text.append("public static void run() {\n");
        Matcher block = Pattern.compile("(?s)```java\n(.*?)```").matcher(page);
        while (block.find()) {
            block.group(1).lines().forEach(line -> text.append(dueLine(line)).append('\n'));
        }
        return text.append("}\n}\n").toString();
    }

    private static String dueLine(String line) {
        Matcher call = CALL.matcher(line);
        if (line.contains("//") && !call.matches()) {
            throw new IllegalArgumentException("README.md: what is due there? " + line);
        }
        Matcher name = Pattern.compile("x\\.(\\w+)").matcher(line);
        while (name.find()) {
            called.add(name.group(1));
        }
        return call.matches()
                ? "ReadmeTest.answered(\"README.md: " + call.group(1) + "\", " + call.group(1) + ", " + call.group(2) + ");"
                : line;
    }

    private static void compile(String source, Path made) {
        JavaCompiler compiler = ToolProvider.getSystemJavaCompiler();
        SimpleJavaFileObject file = new SimpleJavaFileObject(URI.create("string:///ReadmeLines.java"), SimpleJavaFileObject.Kind.SOURCE) {
            @Override
            public CharSequence getCharContent(boolean ignored) {
                return source;
            }
        };
        StringWriter said = new StringWriter();
        List<String> options = List.of("-cp", System.getProperty("java.class.path"), "-d", made.toString());
        boolean compiled = compiler.getTask(said, null, null, options, null, List.of(file)).call();
        if (!compiled) {
            throw new IllegalStateException("README.md: its lines don't compile\n" + said);
        }
    }
}
