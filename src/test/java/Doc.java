import java.io.IOException;
import java.nio.file.Files;
import java.nio.file.Path;
import java.util.ArrayList;
import java.util.HashSet;
import java.util.List;
import java.util.Set;

/**
 * The sentences of ../shared/DOC.md: its part 0 are the Terms, the others its promises by their numbers. A
 * test says by words of it which sentence it is about; in the end a sentence without a test is told.
 */
final class Doc {
    static final int TERMS = 0;
    private static final int PROMISES = 49;
    private static final List<List<String>> PARTS = parts();
    private static final Set<String> TESTED = new HashSet<>();

    private Doc() {
    }

    /** The test that follows is about the sentence of this part that has these words. */
    static void says(int part, String words) {
        int found = 0;
        for (String sentence : PARTS.get(part)) {
            if (sentence.contains(words)) {
                TESTED.add(part + " " + sentence);
                found++;
            }
        }
        Check.due("sentences of part " + part + " with: " + words, 1, found);
    }

    static void isTested(int firstPart, int lastPart) {
        for (int part = firstPart; part <= lastPart; part++) {
            Check.holds("part " + part + " has sentences", !PARTS.get(part).isEmpty());
            for (String sentence : PARTS.get(part)) {
                Check.holds("part " + part + " has a test for: " + sentence, TESTED.contains(part + " " + sentence));
            }
        }
    }

    private static List<List<String>> parts() {
        String text;
        try {
            text = Files.readString(Path.of("../shared/DOC.md"));
        } catch (IOException e) {
            throw new IllegalStateException("the document is not there", e);
        }
        List<List<String>> parts = new ArrayList<>();
        parts.add(sentences(between(text, "All numbers are whole", "\nAhead of the calls")));
        for (int promise = 1; promise <= PROMISES; promise++) {
            String part = between(text, "## Promise " + promise + ":", "\n## ");
            parts.add(sentences(part.substring(part.indexOf('\n')).replaceFirst("`[^`]*`: ", "")));
        }
        return parts;
    }

    private static String between(String text, String start, String end) {
        int from = text.indexOf(start);
        int to = text.indexOf(end, from);
        return from < 0 || to < 0 ? "" : text.substring(from, to);
    }

    /** Neither headings nor lines that say of a parameter only what it is. */
    private static List<String> sentences(String part) {
        List<String> all = new ArrayList<>();
        for (String line : part.split("\n")) {
            boolean isPlainParameter = line.startsWith("- `") && !line.contains(" from ");
            if (!line.startsWith("==") && !isPlainParameter && !line.isBlank()) {
                all.addAll(List.of(line.strip().split("(?<=\\.|\\.\\))\\s+")));
            }
        }
        return all;
    }
}
