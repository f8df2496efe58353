import java.io.IOException;
import java.io.UncheckedIOException;
import java.nio.file.Files;
import java.nio.file.Path;
import java.util.ArrayList;
import java.util.LinkedHashMap;
import java.util.LinkedHashSet;
import java.util.List;
import java.util.Map;
import java.util.Set;
import java.util.regex.Matcher;
import java.util.regex.Pattern;

/**
 * The sentences of ../shared/DOC.md by the place where they stand, "Promise 3" or "Field". A test cites the sentence that
 * it tests, so that a citation that the document does not hold, and a sentence that no test cites, are both found.
 */
final class Document {
    private static final Path PATH = Path.of("../shared/DOC.md");
    private static final Map<String, List<String>> SENTENCES = read();
    private static final Set<String> CITED = new LinkedHashSet<>();

    private Document() {
    }

    /** Returns a name for a test of these words, which must stand in one sentence at the place. */
    static String cite(String place, String words) {
        boolean found = false;
        for (String sentence : SENTENCES.getOrDefault(place, List.of())) {
            if (sentence.contains(words)) {
                CITED.add(place + ": " + sentence);
                found = true;
            }
        }
        if (!found) {
            throw new IllegalStateException("the document does not say, in " + place + ": " + words);
        }
        return place + ", \"" + words + "\"";
    }

    static List<String> uncited() {
        List<String> left = new ArrayList<>();
        SENTENCES.forEach((place, sentences) -> {
            for (String sentence : sentences) {
                if (!CITED.contains(place + ": " + sentence)) {
                    left.add(place + ": " + sentence);
                }
            }
        });
        return left;
    }

    private static Map<String, List<String>> read() {
        try {
            String text = Files.readString(PATH);
            Map<String, List<String>> sentences = new LinkedHashMap<>();
            int start = text.indexOf("## Description");
            String[] parts = text.substring(start, text.indexOf("## Not promised")).split("\n## ");
            readDescription(parts[0], sentences);
            for (int i = 1; i < parts.length; i++) {
                readPromise(parts[i], sentences);
            }
            return sentences;
        } catch (IOException e) {
            throw new UncheckedIOException(e);
        }
    }

    /** Each paragraph begins with its name and a period. */
    private static void readDescription(String part, Map<String, List<String>> sentences) {
        for (String paragraph : part.split("\n\n")) {
            Matcher matcher = Pattern.compile("([A-Z][a-z, ]*)\\. (.*)").matcher(joined(paragraph));
            if (matcher.matches()) {
                sentences.put(matcher.group(1), split(matcher.group(2)));
            }
        }
    }

    private static void readPromise(String part, Map<String, List<String>> sentences) {
        List<String> all = new ArrayList<>();
        int end = part.indexOf('\n');
        for (String paragraph : part.substring(end).split("\n\n|\n(?=- )")) {
            String text = joined(paragraph);
            if (!text.isEmpty() && !text.startsWith("`")) {
                all.addAll(split(text));
            }
        }
        sentences.put(part.substring(0, part.indexOf(':')), all);
    }

    private static String joined(String paragraph) {
        return paragraph.trim().replaceAll("\\s+", " ");
    }

    private static List<String> split(String text) {
        return List.of(text.split("(?<=\\.) (?=[A-Z0-9])"));
    }
}
