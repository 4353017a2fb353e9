import java.io.IOException;
import java.lang.reflect.Method;
import java.net.URL;
import java.net.URLClassLoader;
import java.nio.file.Files;
import java.nio.file.Path;
import java.util.ArrayList;
import java.util.List;
import java.util.regex.Matcher;
import java.util.regex.Pattern;
import javax.tools.ToolProvider;

/** The Java of README.md, compiled and run: each call answers what stands behind it. */
public final class ReadmeTest {
    private static final Path PAGE = Path.of("README.md");
    private static final Path OUT = Path.of("build/readme");
    /** A call, perhaps kept as a number, and its answer; words may stand behind the answer. */
    private static final Pattern CALL = Pattern.compile("(?:int (\\w+) = )?(.+); +// (-?\\d+|true|false)(?::.*)?");

    public static void main(String[] args) throws IOException, ReflectiveOperationException {
        List<List<String>> blocks = javaBlocks();
        Due.is("blocks of Java in README.md", blocks.size(), 2);
        Path source = OUT.resolve("Readme.java");
        Files.createDirectories(OUT);
        Files.writeString(source, program(blocks.get(0), blocks.get(1)));
        String path = System.getProperty("java.class.path");
        int exit = ToolProvider.getSystemJavaCompiler().run(null, null, null,
                "-cp", path, "-d", OUT.toString(), source.toString());
        Due.is("compiling the Java of README.md", exit, 0);
        if (exit == 0) {
            run();
        }
        Due.end();
    }

    private static void run() throws IOException, ReflectiveOperationException {
        try (URLClassLoader loader = new URLClassLoader(new URL[] {OUT.toUri().toURL()})) {
            Method use = loader.loadClass("Readme").getMethod("use");
            String[][] answers = (String[][]) use.invoke(null);
            Due.yes("README.md has calls with answers", answers.length > 20);
            for (String[] call : answers) {
                Due.yes(call[0] + " answered " + call[1] + ", README.md says " + call[2], call[1].equals(call[2]));
            }
        }
    }

    private static List<List<String>> javaBlocks() throws IOException {
        List<List<String>> blocks = new ArrayList<>();
        boolean inside = false;
        for (String line : Files.readAllLines(PAGE)) {
            if (line.equals("```java")) {
                inside = true;
                blocks.add(new ArrayList<>());
            } else if (line.startsWith("```")) {
                inside = false;
            } else if (inside) {
                blocks.get(blocks.size() - 1).add(line);
            }
        }
        return blocks;
    }

    /** A class whose method use makes the calls and tells of each: the call, its answer, and what the page says. */
    private static String program(List<String> calls, List<String> method) {
        StringBuilder code = new StringBuilder("public final class Readme {\n");
        code.append(String.join("\n", method));
        code.append("\npublic static String[][] use() {\n");
        code.append("java.util.List<String[]> told = new java.util.ArrayList<>();\n");
        for (String line : calls) {
            Matcher call = CALL.matcher(line);
            if (!call.matches()) {
                code.append(line).append('\n');
                continue;
            }
            String kept = call.group(1);
            String asked = kept == null ? call.group(2) : kept;
            if (kept != null) {
                code.append(line).append('\n');
            }
            code.append("told.add(new String[] {").append(quoted(call.group(2))).append(", String.valueOf(");
            code.append(asked).append("), ").append(quoted(call.group(3))).append("});\n");
        }
        return code.append("return told.toArray(new String[0][]);\n}\n}\n").toString();
    }

    private static String quoted(String text) {
        return '"' + text.replace("\\", "\\\\").replace("\"", "\\\"") + '"';
    }
}
