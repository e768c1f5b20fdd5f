import java.io.IOException;
import java.net.URL;
import java.net.URLClassLoader;
import java.nio.file.Files;
import java.nio.file.Path;
import java.util.ArrayList;
import java.util.LinkedHashMap;
import java.util.List;
import java.util.Map;
import java.util.function.Supplier;
import java.util.regex.Matcher;
import java.util.regex.Pattern;

/** The example in README.md compiles, and each of its variables is what the comment behind it says. */
public final class ReadmeTest {
    private static final Path README = Path.of("README.md");
    private static final Pattern BLOCK = Pattern.compile("```java\n(.*?)```", Pattern.DOTALL);
    private static final Pattern DUE = Pattern.compile("(?:int|double|boolean) (\\w+) = .*; +// ([^\\s:]+).*");

    private ReadmeTest() {
    }

    public static void main(String[] args) throws Exception {
        List<String> lines = exampleLines();
        Map<String, String> due = new LinkedHashMap<>();
        for (String line : lines) {
            Matcher matcher = DUE.matcher(line);
            if (matcher.matches()) {
                due.put(matcher.group(1), matcher.group(2));
            }
            Check.due("an answer that is looked at: " + line, line.contains("//"), matcher.matches());
        }
        Check.holds("answers of the example: " + due.size(), due.size() > 30);
        Map<?, ?> got = run(lines, due.keySet().stream().toList());
        for (String name : due.keySet()) {
            Check.due("README.md: " + name, due.get(name), String.valueOf(got.get(name)));
        }
        Check.end("ReadmeTest");
    }

    private static List<String> exampleLines() throws IOException {
        List<String> lines = new ArrayList<>();
        Matcher matcher = BLOCK.matcher(Files.readString(README));
        while (matcher.find()) {
            lines.addAll(matcher.group(1).lines().toList());
        }
        return lines;
    }

    /** The example as a class that tells its variables by their names. */
    private static String exampleClass(List<String> lines, List<String> names) {
        StringBuilder text = new StringBuilder();
        text.append("public final class Example implements java.util.function.Supplier<Object> {\n");
        text.append("public Object get() {\n").append(String.join("\n", lines)).append('\n');
        text.append("java.util.Map<String, Object> all = new java.util.HashMap<>();\n");
        for (String name : names) {
            text.append("all.put(\"").append(name).append("\", ").append(name).append(");\n");
        }
        return text.append("return all;\n}\n}\n").toString();
    }

    private static int compile(Path source, Path folder) throws IOException, InterruptedException {
        String path = System.getProperty("java.class.path");
        return new ProcessBuilder("javac", "-cp", path, "-d", folder.toString(), source.toString()).inheritIO()
                .start().waitFor();
    }

    private static Map<?, ?> run(List<String> lines, List<String> names) throws Exception {
        Path folder = Files.createTempDirectory("readme");
        Path source = folder.resolve("Example.java");
        Path compiled = folder.resolve("Example.class");
        try {
            Files.writeString(source, exampleClass(lines, names));
            Check.due("javac of the example", 0, compile(source, folder));
            try (URLClassLoader loader = new URLClassLoader(new URL[] {folder.toUri().toURL()})) {
                Object example = loader.loadClass("Example").getConstructor().newInstance();
                return (Map<?, ?>) ((Supplier<?>) example).get();
            }
        } finally {
            Files.deleteIfExists(compiled);
            Files.deleteIfExists(source);
            Files.deleteIfExists(folder);
        }
    }
}
