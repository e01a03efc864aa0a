import java.io.File;
import java.lang.reflect.Method;
import java.lang.reflect.Modifier;
import java.nio.file.Files;
import java.nio.file.Path;
import java.util.ArrayList;
import java.util.List;
import java.util.regex.Matcher;
import java.util.regex.Pattern;
import javax.tools.JavaCompiler;
import javax.tools.ToolProvider;

/** The examples of README.md, put together to one program: they answer what stands behind them. */
public final class ReadmeTest {
    private static final String README = "README.md", MADE = "ReadmeExamples";
    private static final Pattern ANSWERED = Pattern.compile("(\\S.*\\));\\s*// (-?\\d+)(:.*)?");

    private ReadmeTest() {
    }

    private static List<List<String>> javaBlocks() throws Exception {
        List<List<String>> blocks = new ArrayList<>();
        boolean inside = false;
        for (String line : Files.readAllLines(Path.of(README))) {
            if (line.equals("```java")) {
                inside = true;
                blocks.add(new ArrayList<>());
            } else if (line.equals("```")) {
                inside = false;
            } else if (inside) {
                blocks.get(blocks.size() - 1).add(line);
            }
        }
        return blocks;
    }

    /** A class of the blocks: methods as they stand, statements one behind another. */
    private static String program(List<List<String>> blocks) {
        StringBuilder methods = new StringBuilder();
        StringBuilder statements = new StringBuilder();
        for (List<String> block : blocks) {
            boolean isMethod = block.get(0).startsWith("static ");
            for (String line : block) {
                if (isMethod) {
                    methods.append(line).append('\n');
                } else {
                    statements.append(statement(line)).append('\n');
                }
            }
        }
        return "public final class " + MADE + " {\n" + methods + "public static void main("
                + "String[] args) {\nDue due = new Due();\ndue.part(\"README\");\n" + statements
                + "due.end();\n}\n}\n";
    }

    private static String statement(String line) {
        Matcher m = ANSWERED.matcher(line);
        if (!m.matches()) {
            return line;
        }
        String named = m.group(1).replace("\\", "\\\\").replace("\"", "\\\"");
        return "due.is(\"" + named + "\", " + m.group(1) + ", " + m.group(2) + ");";
    }

    private static boolean showsAll(String program) {
        boolean all = true;
        for (Method m : TwiceOnce.class.getDeclaredMethods()) {
            if (Modifier.isPublic(m.getModifiers()) && !program.contains(", t." + m.getName() + "(")) {
                System.out.println("README.md does not show " + m.getName());
                all = false;
            }
        }
        return all;
    }

    private static void run(String program, Path dir) throws Exception {
        Path source = dir.resolve(MADE + ".java");
        Files.writeString(source, program);
        JavaCompiler compiler = ToolProvider.getSystemJavaCompiler();
        String path = System.getProperty("java.class.path");
        int failed = compiler.run(null, null, null, "-proc:none", "-cp", path, "-d", dir.toString(),
                source.toString());
        if (failed != 0) {
            System.out.println("the examples of README.md can't be compiled");
            System.exit(1);
        }
        Process ran = new ProcessBuilder(System.getProperty("java.home") + "/bin/java", "-cp",
                path + File.pathSeparator + dir, MADE).inheritIO().start();
        if (ran.waitFor() != 0) {
            System.exit(1);
        }
    }

    public static void main(String[] args) throws Exception {
        String program = program(javaBlocks());
        if (!showsAll(program)) {
            System.exit(1);
        }
        Path dir = Files.createTempDirectory("readme");
        dir.toFile().deleteOnExit();
        for (String made : new String[] {".java", ".class"}) {
            dir.resolve(MADE + made).toFile().deleteOnExit();
        }
        run(program, dir);
    }
}
