import java.io.File;
import java.io.IOException;
import java.lang.ProcessBuilder.Redirect;
import java.lang.reflect.Method;
import java.lang.reflect.Modifier;
import java.nio.file.Files;
import java.nio.file.Path;
import java.util.ArrayList;
import java.util.Comparator;
import java.util.List;
import java.util.Set;
import java.util.stream.Collectors;
import java.util.stream.IntStream;
import java.util.stream.Stream;

/**
 * "An object is used for at most 512 calls; what later calls answer is free": no test may ask for more. The
 * tests are run once more with a store that hands each call on to the program and ends them at a 513th.
 */
public final class CallsTest {
    private static final Path PROGRAM = Path.of("src/main/java/EbbTable.java");
    private static final Path TESTS = Path.of("src/test/java");
    private static final Set<String> NOT_ABOUT_ANSWERS = Set.of("CallsTest", "FaceTest", "ReadmeTest");
    private static final int ENDED = 3;

    private CallsTest() {
    }

    public static void main(String[] args) throws Exception {
        Path folder = Files.createTempDirectory("calls");
        try {
            int compiled = compile(folder);
            Check.due("javac of the counting store", 0, compiled);
            if (compiled == 0) {
                runAll(folder);
            }
        } finally {
            delete(folder);
        }
        Check.end("CallsTest");
    }

    private static void runAll(Path folder) throws IOException, InterruptedException {
        List<String> tests = testNames();
        Check.holds("tests that are about answers: " + tests, tests.size() > 5);
        int ended = java(folder, Redirect.INHERIT, AllTests.class, tests);
        Check.due("the tests with at most 512 calls end with", 0, ended);
        int endedEarly = java(folder, Redirect.DISCARD, TooMany.class, List.of());
        Check.due("a 513th call ends with", ENDED, endedEarly);
    }

    /** Runs the main methods of the tests that are named; each ends the program itself if it fails. */
    static final class AllTests {
        public static void main(String[] tests) throws ReflectiveOperationException {
            for (String test : tests) {
                Class.forName(test).getMethod("main", String[].class).invoke(null, (Object) new String[0]);
            }
        }
    }

    /** What the counting store is there to find. */
    static final class TooMany {
        public static void main(String[] args) {
            EbbTable x = new EbbTable();
            for (int call = 1; call <= 512; call++) {
                x.digest();
            }
            x.digest();
        }
    }

    private static List<String> testNames() throws IOException {
        try (Stream<Path> files = Files.list(TESTS)) {
            return files.map(file -> file.getFileName().toString().replace(".java", "")).sorted()
                    .filter(name -> name.endsWith("Test") && !NOT_ABOUT_ANSWERS.contains(name)).toList();
        }
    }

    private static int compile(Path folder) throws IOException, InterruptedException {
        Path inside = folder.resolve("Inside.java");
        Path counting = folder.resolve("EbbTable.java");
        Files.writeString(inside, Files.readString(PROGRAM).replace("EbbTable", "Inside"));
        Files.writeString(counting, countingStore());
        List<String> words = new ArrayList<>(List.of("javac", "-encoding", "UTF-8", "-d", folder.toString()));
        words.addAll(List.of(inside.toString(), counting.toString()));
        try (Stream<Path> files = Files.list(TESTS)) {
            files.map(Path::toString).forEach(words::add);
        }
        return new ProcessBuilder(words).inheritIO().start().waitFor();
    }

    private static int java(Path folder, Redirect errors, Class<?> main, List<String> arguments)
            throws IOException, InterruptedException {
        List<String> words = new ArrayList<>(List.of("java", "-cp", folder.toString(), main.getName()));
        words.addAll(arguments);
        return new ProcessBuilder(words).redirectOutput(Redirect.DISCARD).redirectError(errors).start().waitFor();
    }

    private static String countingStore() {
        StringBuilder text = new StringBuilder("public final class EbbTable {\n");
        text.append("private final Inside inside = new Inside();\nprivate int calls;\n");
        text.append("private void oneMore() {\ncalls++;\nif (calls > 512) {\n");
        text.append("new Throwable(\"a 513th call\").printStackTrace();\n");
        text.append("Runtime.getRuntime().halt(").append(ENDED).append(");\n}\n}\n");
        for (Method method : EbbTable.class.getDeclaredMethods()) {
            if (Modifier.isPublic(method.getModifiers())) {
                text.append(countingCall(method));
            }
        }
        return text.append("}\n").toString();
    }

    private static String countingCall(Method method) {
        Class<?>[] types = method.getParameterTypes();
        String parameters = IntStream.range(0, types.length).mapToObj(i -> types[i] + " of" + i)
                .collect(Collectors.joining(", "));
        String arguments = IntStream.range(0, types.length).mapToObj(i -> "of" + i)
                .collect(Collectors.joining(", "));
        return "public " + method.getReturnType() + " " + method.getName() + "(" + parameters + ") {\noneMore();\n"
                + "return inside." + method.getName() + "(" + arguments + ");\n}\n";
    }

    private static void delete(Path folder) throws IOException {
        try (Stream<Path> all = Files.walk(folder)) {
            all.sorted(Comparator.reverseOrder()).map(Path::toFile).forEach(File::delete);
        }
    }
}
