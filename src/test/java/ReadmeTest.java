import java.io.File;
import java.io.IOException;
import java.lang.reflect.Method;
import java.lang.reflect.Modifier;
import java.net.URL;
import java.net.URLClassLoader;
import java.nio.file.Files;
import java.nio.file.Path;
import java.util.ArrayList;
import java.util.List;
import java.util.regex.Matcher;
import java.util.regex.Pattern;
import java.util.stream.Stream;
import javax.tools.ToolProvider;

/** The examples of README.md are compiled as they stand there, and answer what stands behind them. */
public final class ReadmeTest {
    private static final Pattern BLOCK = Pattern.compile("```java\n(.*?)```", Pattern.DOTALL);
    private static final Pattern ANSWERED = Pattern.compile("^((?:x\\.\\w+|tell)\\(.*\\));\\s+// (true|false|-?\\d+)\\b.*$");

    public static void main(String[] args) throws Exception {
        String readme = Files.readString(Path.of("README.md"));
        List<String> methods = new ArrayList<>();
        List<String> statements = new ArrayList<>();
        Matcher block = BLOCK.matcher(readme);
        while (block.find()) {
            (block.group(1).startsWith("static ") ? methods : statements).add(block.group(1));
        }
        everyCallStandsThere(String.join("", statements));
        Path made = Files.createTempDirectory("readme");
        try {
            perform(made, program(methods, statements));
        } finally {
            remove(made);
        }
        Check.done();
    }

    private static void everyCallStandsThere(String statements) {
        for (Method m : StackWords.class.getDeclaredMethods()) {
            if (Modifier.isPublic(m.getModifiers())) {
                Check.due("README.md tells of " + m.getName(), statements.contains("x." + m.getName() + "("), true);
            }
        }
    }

    private static String program(List<String> methods, List<String> statements) {
        StringBuilder b = new StringBuilder("public final class Readme {\n").append(String.join("", methods));
        b.append("public static void perform(java.util.List<String> wrong) {\n");
        for (String statement : String.join("", statements).split("\n")) {
            Matcher m = ANSWERED.matcher(statement);
            boolean answered = m.matches();
            Check.due("an answer stands behind: " + statement, answered || statement.matches("(String|StackWords) .*;"), true);
            if (answered) {
                String call = m.group(1);
                b.append("if (").append(call).append(" != ").append(m.group(2)).append(") wrong.add(\"")
                    .append(call.replace("\\", "\\\\").replace("\"", "\\\"")).append("\");\n");
            } else {
                b.append(statement).append('\n');
            }
        }
        return b.append("}\n}\n").toString();
    }

    private static void perform(Path made, String program) throws Exception {
        Path source = Files.writeString(made.resolve("Readme.java"), program);
        String classes = new File(StackWords.class.getProtectionDomain().getCodeSource().getLocation().toURI()).getPath();
        int failed = ToolProvider.getSystemJavaCompiler().run(null, null, null, "-cp", classes, "-d", made.toString(), source.toString());
        Check.due("README.md compiles", failed, 0);
        if (failed != 0) {
            return;
        }
        List<String> wrong = new ArrayList<>();
        try (URLClassLoader loader = new URLClassLoader(new URL[] {made.toUri().toURL()}, ReadmeTest.class.getClassLoader())) {
            loader.loadClass("Readme").getMethod("perform", List.class).invoke(null, wrong);
        }
        Check.due("answers otherwise than README.md says: " + wrong, wrong.isEmpty(), true);
    }

    private static void remove(Path made) throws IOException {
        try (Stream<Path> files = Files.list(made)) {
            for (Path file : files.toList()) {
                Files.delete(file);
            }
        }
        Files.delete(made);
    }
}
