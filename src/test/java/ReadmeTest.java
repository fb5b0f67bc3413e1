import java.io.IOException;
import java.net.URL;
import java.net.URLClassLoader;
import java.nio.file.Files;
import java.nio.file.Path;
import java.util.Comparator;
import java.util.List;
import java.util.regex.Matcher;
import java.util.regex.Pattern;
import java.util.stream.Collectors;
import java.util.stream.Stream;
import javax.tools.JavaCompiler;
import javax.tools.ToolProvider;

/** README.md's examples, compiled as they stand there and run: each call must answer what stands behind it. */
public final class ReadmeTest extends Sentences {
    private static final Pattern BLOCK = Pattern.compile("(?s)```java\n(.*?)```");
    private static final Pattern ANSWERED =
        Pattern.compile("(?:int (\\w+) = )?(x\\.(\\w+)\\(.*\\));\\s*// (-?\\d+|[A-Z]+)(?::.*)?");
    private static final Pattern TOLD = Pattern.compile("\\| `([A-Z]+)` \\| (-\\d+) \\|");
    private static final String[] SHOWN = {"letter", "fault", "blank", "valley", "source", "about", "as", "burn"};

    private static String readme() throws IOException {
        return Files.readString(Path.of("README.md"));
    }

    /** The line as it stands, or with a check of its answer. */
    private static String checked(String line) {
        Matcher m = ANSWERED.matcher(line);
        if (!m.matches()) return line;
        String call = m.group(2);
        String told = "\"" + call.replace("\\", "\\\\").replace("\"", "\\\"") + "\"";
        String due = m.group(4);
        String got = m.group(1) == null ? call : m.group(1);
        String first = m.group(1) == null ? "" : "int " + got + " = " + call + "; ";
        String want = Character.isLetter(due.charAt(0)) ? "SmellBorders." + due : due;
        return first + "due.accept(" + told + ", new long[] {" + got + ", " + want + "});";
    }

    private static String examples(String readme) {
        StringBuilder code = new StringBuilder();
        code.append("public final class Examples {\n")
            .append("public static void run(java.util.function.BiConsumer<String, long[]> due) {\n");
        Matcher block = BLOCK.matcher(readme);
        while (block.find()) {
            for (String line : block.group(1).split("\n")) {
                code.append(checked(line)).append('\n');
            }
        }
        return code.append("}\n}\n").toString();
    }

    private static void runExamples(String code) throws IOException, ReflectiveOperationException {
        Path folder = Files.createTempDirectory("readme");
        try {
            Path file = folder.resolve("Examples.java");
            Files.writeString(file, code);
            JavaCompiler javac = ToolProvider.getSystemJavaCompiler();
            int refusedBy = javac.run(null, null, null, "--release", "17", "-cp", System.getProperty("java.class.path"),
                "-d", folder.toString(), file.toString());
            due("the examples compile", refusedBy, 0);
            if (refusedBy != 0) return;
            try (URLClassLoader loader = new URLClassLoader(new URL[] {folder.toUri().toURL()})) {
                java.util.function.BiConsumer<String, long[]> due = (call, pair) -> due(call, pair[0], pair[1]);
                loader.loadClass("Examples").getMethod("run", java.util.function.BiConsumer.class).invoke(null, due);
            }
        } finally {
            remove(folder);
        }
    }

    private static void remove(Path folder) throws IOException {
        List<Path> all;
        try (Stream<Path> walk = Files.walk(folder)) {
            all = walk.sorted(Comparator.reverseOrder()).collect(Collectors.toList());
        }
        for (Path path : all) {
            Files.delete(path);
        }
    }

    /** An example that lost its answer, or its form, would else go unchecked. */
    private static void whatIsShown(String readme) {
        Matcher block = BLOCK.matcher(readme);
        StringBuilder calls = new StringBuilder();
        while (block.find()) {
            for (String line : block.group(1).split("\n")) {
                boolean isCall = line.startsWith("x.") || line.matches("int \\w+ = x\\..*");
                if (isCall) due("an answer stands behind: " + line, ANSWERED.matcher(line).matches() ? 1 : 0, 1);
                calls.append(line).append('\n');
            }
        }
        for (String call : SHOWN) {
            due("README.md shows " + call + "()", calls.indexOf("x." + call + "(") >= 0 ? 1 : 0, 1);
        }
        for (String refusal : new String[] {"UNKNOWN", "OUTSIDE", "STATE"}) {
            due("README.md shows " + refusal, calls.indexOf("// " + refusal) >= 0 ? 1 : 0, 1);
        }
        due("README.md says how tests are run", readme.contains("`.ci/run`") ? 1 : 0, 1);
    }

    private static void refusals(String readme) throws ReflectiveOperationException {
        Matcher row = TOLD.matcher(readme);
        int rows = 0;
        for (; row.find(); rows++) {
            due(row.group(1), SmellBorders.class.getField(row.group(1)).getInt(null), Integer.parseInt(row.group(2)));
        }
        due("refusals in the table", rows, 4);
    }

    public static void main(String[] args) throws IOException, ReflectiveOperationException {
        String readme = readme();
        whatIsShown(readme);
        refusals(readme);
        runExamples(examples(readme));
        end();
    }
}
