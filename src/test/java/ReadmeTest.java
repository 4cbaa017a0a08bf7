import java.net.URL;
import java.net.URLClassLoader;
import java.nio.file.Files;
import java.nio.file.Path;
import java.util.ArrayList;
import java.util.List;
import java.util.regex.Matcher;
import java.util.regex.Pattern;
import javax.tools.JavaCompiler;
import javax.tools.ToolProvider;

/**
 * The examples of README.md, compiled and run as they stand there, so that the text can't drift away from the
 * class. Each call must have the number that it answers behind it, in a comment.
 */
public final class ReadmeTest {
    private static final Check CHECK = new Check();
    private static final Pattern EXAMPLE = Pattern.compile("```java\\n(.*?)```", Pattern.DOTALL);
    private static final Pattern CALL =
        Pattern.compile("(int (?<variable>\\w+) = )?(?<call>x\\.\\w+\\([^;]*\\)); +// (?<answer>-?\\d+)(: .+)?");
    private static final String NEW = "MakerOrders x = new MakerOrders();";

    /** One example: Java that keeps the answer of each call in the row "got", and the answers that README.md tells. */
    private static final class Example {
        final StringBuilder java = new StringBuilder();
        final List<String> calls = new ArrayList<>();
        final List<Long> answers = new ArrayList<>();

        void read(String line) {
            Matcher matcher = CALL.matcher(line);
            if (!matcher.matches()) {
                CHECK.due("a line that is no call with its answer: " + line, line.equals(NEW) ? 1 : 0, 1);
                java.append(line).append('\n');
                return;
            }
            String slot = "got[" + calls.size() + "]";
            String variable = matcher.group("variable");
            String call = matcher.group("call");
            if (variable == null) {
                java.append(slot + " = " + call + ";\n");
            } else {
                java.append("int " + variable + " = " + call + "; " + slot + " = " + variable + ";\n");
            }
            calls.add(call);
            answers.add(Long.valueOf(matcher.group("answer")));
        }

        String source(String name) {
            return "public final class " + name + " { public static long[] run() { long[] got = new long["
                + calls.size() + "];\n" + java + "return got; } }\n";
        }
    }

    public static void main(String[] args) throws Exception {
        Matcher matcher = EXAMPLE.matcher(Files.readString(Path.of("README.md")));
        int examples = 0;
        while (matcher.find()) {
            examples++;
            Example example = new Example();
            matcher.group(1).lines().forEach(example::read);
            compare("example " + examples, example, run("Example" + examples, example));
        }
        CHECK.due("README.md shows examples", examples > 0 ? 1 : 0, 1);
        CHECK.end();
    }

    private static void compare(String name, Example example, long[] got) {
        for (int i = 0; i < got.length; i++) {
            CHECK.due(name + ": " + example.calls.get(i), got[i], example.answers.get(i));
        }
    }

    /** What the calls of an example answer; none if it does not compile. */
    private static long[] run(String name, Example example) throws Exception {
        Path folder = Files.createTempDirectory("readme");
        Path source = folder.resolve(name + ".java");
        Path compiled = folder.resolve(name + ".class");
        try {
            Files.writeString(source, example.source(name));
            JavaCompiler compiler = ToolProvider.getSystemJavaCompiler();
            int exit = compiler.run(null, null, null, "-cp", System.getProperty("java.class.path"),
                "-d", folder.toString(), source.toString());
            CHECK.due(name + " compiles", exit, 0);
            if (exit != 0) {
                return new long[0];
            }
            try (URLClassLoader loader = new URLClassLoader(new URL[] {folder.toUri().toURL()})) {
                return (long[]) loader.loadClass(name).getMethod("run").invoke(null);
            }
        } finally {
            Files.deleteIfExists(source);
            Files.deleteIfExists(compiled);
            Files.deleteIfExists(folder);
        }
    }
}
