import java.io.IOException;
import java.nio.file.Files;
import java.nio.file.Path;
import java.util.List;
import java.util.regex.Matcher;
import java.util.regex.Pattern;
import javax.tools.ToolProvider;

/** The examples of README.md, run as they stand there, and its table of codes. */
public final class ReadmeTest {
    private static final Path README = Path.of("README.md");
    // The directory that this test was compiled into: a class that is added there can be loaded.
    private static final Path CLASSES = Path.of(System.getProperty("java.class.path"));
    /** A call, kept under a name or not, and behind the slashes first of all what it answers. */
    private static final Pattern CALL = Pattern.compile("(long (\\w+) = )?(.+); +// (-?\\w+).*");
    private static final Pattern CODE = Pattern.compile("\\| `(\\w+)` \\| (-?\\d+) \\|.*");

    private static int calls = 0;
    private static int codes = 0;

    public static void main(String[] args) throws IOException, ReflectiveOperationException {
        List<String> lines = Files.readAllLines(README);
        runExamples(program(lines));
        for (String line : lines) {
            checkCode(line);
        }
        Expect.same("README.md has example calls", calls > 30, true);
        Expect.same("how many codes README.md has", codes, 6);
        Expect.finish();
    }

    private static String program(List<String> lines) {
        StringBuilder body = new StringBuilder();
        boolean example = false;
        for (String line : lines) {
            if (line.startsWith("```")) {
                example = line.equals("```java");
            } else if (example) {
                body.append(statement(line)).append('\n');
            }
        }
        return "final class ReadmeRun {\n"
                + constantsByName()
                + "static void run() {\n" + body + "}\n}\n";
    }

    private static String statement(String line) {
        Matcher call = CALL.matcher(line);
        if (!call.matches()) {
            return line;
        }
        calls++;
        String name = call.group(2);
        String keep = name == null ? "" : "long " + name + " = " + call.group(3) + "; ";
        String got = name == null ? call.group(3) : name;
        return keep + "Expect.same(\"README.md: " + call.group(3) + "\", " + got + ", " + call.group(4) + ");";
    }

    /** The examples name a code without its class. */
    private static String constantsByName() {
        StringBuilder text = new StringBuilder();
        for (String code : List.of("NO_KEY", "NO_BOX", "CLOSED", "BAD", "FULL", "NONE")) {
            text.append("static final int ").append(code).append(" = SealedTally.").append(code).append(";\n");
        }
        return text.toString();
    }

    private static void runExamples(String program) throws IOException, ReflectiveOperationException {
        Path source = Files.writeString(CLASSES.resolve("ReadmeRun.java"), program);
        int refused = ToolProvider.getSystemJavaCompiler().run(null, null, null,
                "-cp", CLASSES.toString(), "-d", CLASSES.toString(), source.toString());
        Expect.same("compiling the examples of README.md", refused, 0);
        if (refused == 0) {
            Class.forName("ReadmeRun").getDeclaredMethod("run").invoke(null);
        }
    }

    private static void checkCode(String line) throws ReflectiveOperationException {
        Matcher code = CODE.matcher(line);
        if (code.matches()) {
            codes++;
            int value = SealedTally.class.getField(code.group(1)).getInt(null);
            Expect.same("README.md: " + code.group(1), Integer.parseInt(code.group(2)), value);
        }
    }
}
