import java.io.IOException;
import java.lang.reflect.Constructor;
import java.lang.reflect.Executable;
import java.lang.reflect.Field;
import java.lang.reflect.Method;
import java.lang.reflect.Modifier;
import java.nio.file.Files;
import java.nio.file.Path;
import java.util.Arrays;
import java.util.List;
import java.util.Set;
import java.util.TreeSet;
import java.util.regex.Matcher;
import java.util.regex.Pattern;
import java.util.stream.Collectors;

/**
 * The class has just the face that ../shared/DOC.md prints, and keeps to those rules of ../shared/LANGUAGE.md
 * that can be seen without understanding the code.
 */
public final class FaceTest {
    private static final Path DOC = Path.of("../shared/DOC.md");
    private static final Path SOURCE = Path.of("src/main/java/EbbTable.java");

    private FaceTest() {
    }

    public static void main(String[] args) throws IOException {
        faceIsThatOfTheDocument();
        for (Class<?> own : allClasses()) {
            namesAndSizes(own);
        }
        Check.holds("rule 11: some twelve classes", allClasses().size() <= 12);
        wordsThatAreRuledOut();
        Check.end("FaceTest");
    }

    private static List<Class<?>> allClasses() {
        List<Class<?>> all = new java.util.ArrayList<>(List.of(EbbTable.class));
        all.addAll(Arrays.asList(EbbTable.class.getDeclaredClasses()));
        return all;
    }

    private static void faceIsThatOfTheDocument() throws IOException {
        String text = Files.readString(DOC);
        int start = text.indexOf("```java") + 7;
        Set<String> due = new TreeSet<>();
        for (String line : text.substring(start, text.indexOf("```", start)).split("\n")) {
            if (line.strip().startsWith("public ") && line.strip().endsWith(";")) {
                due.add(withoutNames(line.strip()));
            }
        }
        Set<String> got = new TreeSet<>();
        for (Constructor<?> made : EbbTable.class.getDeclaredConstructors()) {
            got.add(shown(made, "public EbbTable"));
        }
        for (Method method : EbbTable.class.getDeclaredMethods()) {
            if (!Modifier.isPrivate(method.getModifiers())) {
                String start1 = Modifier.toString(method.getModifiers()) + " " + method.getReturnType().getSimpleName();
                got.add(shown(method, start1 + " " + method.getName()));
            }
        }
        Check.due("rule 1: the face", due, got);
        Check.holds("the document has a face", due.size() == 49);
        Check.due("rule 1: the class", "public final", Modifier.toString(EbbTable.class.getModifiers()));
        Check.holds("rule 1: no package", EbbTable.class.getPackageName().isEmpty());
    }

    private static String shown(Executable of, String start) {
        String parameters = Arrays.stream(of.getParameterTypes()).map(Class::getSimpleName)
                .collect(Collectors.joining(", "));
        String thrown = Arrays.stream(of.getExceptionTypes()).map(Class::getSimpleName)
                .collect(Collectors.joining(", "));
        return start + "(" + parameters + ")" + (thrown.isEmpty() ? "" : " throws " + thrown) + ";";
    }

    private static String withoutNames(String line) {
        int open = line.indexOf('(');
        int close = line.indexOf(')');
        String parameters = line.substring(open + 1, close).replaceAll("(\\w+) \\w+", "$1");
        return line.substring(0, open + 1) + parameters + line.substring(close);
    }

    private static void namesAndSizes(Class<?> own) {
        Set<String> face = Arrays.stream(EbbTable.class.getDeclaredMethods())
                .filter(m -> Modifier.isPublic(m.getModifiers())).map(Method::getName).collect(Collectors.toSet());
        int fields = 0;
        for (Field field : own.getDeclaredFields()) {
            int how = field.getModifiers();
            fields += Modifier.isStatic(how) ? 0 : 1;
            Check.holds("rule 5: static means final: " + field, !Modifier.isStatic(how) || Modifier.isFinal(how));
            Check.holds("rule 1: private: " + field, own != EbbTable.class || Modifier.isPrivate(how));
        }
        Check.holds("rule 11: some twenty fields: " + own, fields <= 20);
        for (Method method : own.getDeclaredMethods()) {
            boolean isPrivate = Modifier.isPrivate(method.getModifiers());
            Check.holds("rule 1: name: " + method, !isPrivate || !face.contains(method.getName()));
            Check.holds("rule 11: seven parameters: " + method, method.getParameterCount() <= 7);
        }
        int how = own.getModifiers();
        boolean isInside = Modifier.isStatic(how) && !Modifier.isPublic(how) && !Modifier.isProtected(how);
        Check.holds("rule 2: static inside: " + own, own == EbbTable.class || isInside);
    }

    private static void wordsThatAreRuledOut() throws IOException {
        String code = Files.readString(SOURCE).replaceAll("(?s)/\\*.*?\\*/", "").replaceAll("//[^\n]*", "");
        none("rule 1: package", "(?m)^\\s*package\\b", code);
        none("rule 2: method reference", "::", code);
        none("rule 2: lambda", "(?m)^(?!\\s*(case|default)\\b).*->", code);
        String library = "ArrayList|List|Arrays|Iterator|NoSuchElementException";
        none("rule 4: library", "\\bimport (?!java\\.util\\.(" + library + ");)", code);
        none("rule 4: library", "\\bSystem\\.(?!arraycopy\\()", code);
        none("rule 4: exact functions", "Exact\\(", code);
        none("rule 5: static initialiser", "\\bstatic\\s*\\{", code);
        none("rule 6: words", "\\b(finally|synchronized|assert|hashCode|goto)\\b", code);
        String ofTheMachine = "Throwable|Error|Exception|NullPointer|ClassCast|Array|Negative";
        none("rule 6: what the machine throws", "\\bcatch \\((" + ofTheMachine + ")", code);
        none("rule 13: clock, chance, threads", "\\b(Random|Thread|Instant|File|Files|Path|Socket)\\b", code);
        Check.holds("rule 4: signs 1 to 127", code.chars().allMatch(c -> c > 0 && c < 128));
    }

    private static void none(String rule, String ruledOut, String code) {
        Matcher matcher = Pattern.compile(ruledOut).matcher(code);
        Check.due(rule, "nothing", matcher.find() ? matcher.group() : "nothing");
    }
}
