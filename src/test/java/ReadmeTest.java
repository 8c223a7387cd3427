import java.io.File;
import java.io.IOException;
import java.net.URL;
import java.net.URLClassLoader;
import java.nio.file.Files;
import java.nio.file.Path;
import java.util.ArrayList;
import java.util.List;
import java.util.regex.Matcher;
import java.util.regex.Pattern;
import javax.tools.JavaCompiler;
import javax.tools.ToolProvider;

/** The Java of README.md compiles, and its calls answer what stands behind them. */
public final class ReadmeTest {
    private static final Pattern BLOCK = Pattern.compile("(?s)```java\n(.*?)```");
    private static final Pattern CALL = Pattern.compile("(\\w+.*\\));\\s+// (-?\\d+): .*");
    private static final int LEAST_CALLS = 20;

    private static List<String> blocks(String readme) {
        List<String> blocks = new ArrayList<>();
        Matcher m = BLOCK.matcher(readme);
        while (m.find()) {
            blocks.add(m.group(1));
        }
        return blocks;
    }

    /** A class whose function wrong() does the calls, and counts the answers that are others. */
    private static String program(String helper, String session) {
        StringBuilder code = new StringBuilder("public class Readme {\n" + helper);
        code.append("static int due(String call, int got, int want) {\n");
        code.append("if (got != want) { System.out.println(call + \" answered \" + got + \", README says \" + want); }\n");
        code.append("return got == want ? 0 : 1;\n}\n");
        code.append("public static int wrong() {\nint wrong = 0;\n");
        int calls = 0;
        for (String line : session.split("\n")) {
            Matcher m = CALL.matcher(line);
            if (m.matches()) {
                String call = m.group(1);
                code.append("wrong += due(\"" + call.replace("\"", "\\\"") + "\", " + call + ", " + m.group(2) + ");\n");
                calls++;
            } else {
                code.append(line).append('\n');
            }
        }
        code.append("return wrong" + (calls < LEAST_CALLS ? " + 1" : "") + ";\n}\n}\n");
        return code.toString();
    }

    private static int wrongOf(JavaCompiler compiler, Path dir, String code)
            throws IOException, ReflectiveOperationException {
        Path file = dir.resolve("Readme.java");
        Files.writeString(file, code);
        String path = System.getProperty("java.class.path");
        int compiled = compiler.run(null, System.out, System.out, "-cp", path, "-d", dir.toString(), file.toString());
        if (compiled != 0) {
            return 1;
        }
        try (URLClassLoader loader = new URLClassLoader(new URL[] {dir.toUri().toURL()})) {
            return (Integer) loader.loadClass("Readme").getMethod("wrong").invoke(null);
        }
    }

    public static void main(String[] args) throws IOException, ReflectiveOperationException {
        JavaCompiler compiler = ToolProvider.getSystemJavaCompiler();
        if (compiler == null) {
            // A machine may have javac beside a java that does not hold it.
            System.out.println("there is no compiler within this java");
            return;
        }
        List<String> blocks = blocks(Files.readString(Path.of("README.md")));
        Path dir = Files.createTempDirectory("readme");
        int wrong = blocks.size() == 2 ? wrongOf(compiler, dir, program(blocks.get(0), blocks.get(1))) : 1;
        for (File file : dir.toFile().listFiles()) {
            Files.delete(file.toPath());
        }
        Files.delete(dir);
        System.out.println(wrong == 0 ? "README.md tells what the desk answers" : "README.md tells something else");
        if (wrong != 0) {
            System.exit(1);
        }
    }
}
