import java.io.IOException;
import java.net.URL;
import java.net.URLClassLoader;
import java.nio.file.Files;
import java.nio.file.Path;
import java.util.ArrayList;
import java.util.List;
import java.util.regex.Matcher;
import java.util.regex.Pattern;
import javax.tools.ToolProvider;

/** The examples in README.md answer what their comments say: a class is made of them, and run. */
public final class LacehallReadme {
    private static final Pattern EXAMPLE = Pattern.compile("(?:int (\\w+) = )?(.+); +// ([^:]+)(:.*)?");
    private static final int LEAST_EXAMPLES = 60;

    private final List<String> calls = new ArrayList<>();
    private final List<String> due = new ArrayList<>();
    private final StringBuilder body = new StringBuilder();

    public static void main(String[] arguments) throws IOException, ReflectiveOperationException {
        LacehallReadme readme = new LacehallReadme();
        readme.read(Files.readAllLines(Path.of("README.md")));
        Path out = Files.createTempDirectory("readme");
        try {
            readme.check(out);
        } finally {
            Files.deleteIfExists(out.resolve("Examples.java"));
            Files.deleteIfExists(out.resolve("Examples.class"));
            Files.delete(out);
        }
        Check.finish("LacehallReadme");
    }

    private void read(List<String> lines) {
        boolean isCode = false;
        for (String line : lines) {
            if (line.startsWith("```")) {
                isCode = line.equals("```java");
            } else if (isCode) {
                readCode(line);
            }
        }
    }

    private void readCode(String line) {
        Matcher example = EXAMPLE.matcher(line);
        if (!example.matches()) {
            body.append(line).append('\n');
            return;
        }
        String call = example.group(2);
        calls.add(call);
        due.add(example.group(3).trim());
        if (example.group(1) != null) {
            body.append("int ").append(example.group(1)).append(" = ").append(call).append(";\n");
            call = example.group(1);
        }
        body.append("try { told.add(String.valueOf(").append(call).append(")); }\n")
                .append("catch (RuntimeException e) { told.add(\"throws \" + e.getClass().getSimpleName()); }\n");
    }

    private void check(Path out) throws IOException, ReflectiveOperationException {
        Path source = out.resolve("Examples.java");
        Files.writeString(source, "public final class Examples {\n"
                + "public static java.util.List<String> told() {\n"
                + "java.util.List<String> told = new java.util.ArrayList<>();\n" + body + "return told;\n}\n}\n");
        int wrong = ToolProvider.getSystemJavaCompiler().run(null, null, null,
                "-cp", System.getProperty("java.class.path"), "-d", out.toString(), source.toString());
        Check.is("the examples compile", wrong, 0);
        if (wrong != 0) {
            return;
        }
        Object told;
        try (URLClassLoader loader = new URLClassLoader(new URL[] {out.toUri().toURL()})) {
            told = loader.loadClass("Examples").getMethod("told").invoke(null);
        }
        List<?> answers = (List<?>) told;
        Check.is("the number of answers", answers.size(), calls.size());
        Check.is("there are examples", calls.size() >= LEAST_EXAMPLES, true);
        for (int i = 0; i < calls.size() && i < answers.size(); i++) {
            Check.is("README.md: " + calls.get(i), answers.get(i), due.get(i));
        }
    }
}
