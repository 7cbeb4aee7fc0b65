import java.io.IOException;
import java.nio.file.Files;
import java.nio.file.Path;
import java.util.ArrayList;
import java.util.LinkedHashMap;
import java.util.List;
import java.util.Map;
import java.util.Set;

/** The document's sentences, by the section in which they stand: "Terms", "Promise 1" and so on. */
final class Sentences {
    private static final Path DOCUMENT = Path.of("../shared/DOC.md");

    private final Map<String, List<String>> bySection = new LinkedHashMap<>();

    Sentences() {
        for (String section : read().split("(?m)^## ")) {
            String[] headAndBody = section.split("\n", 2);
            bySection.put(headAndBody[0].split(":")[0], sentencesOf(headAndBody.length > 1 ? headAndBody[1] : ""));
        }
    }

    List<String> of(String section) {
        return bySection.getOrDefault(section, List.of());
    }

    Set<String> sections() {
        return bySection.keySet();
    }

    private static String read() {
        try {
            return Files.readString(DOCUMENT);
        } catch (IOException e) {
            throw new IllegalStateException("the document is not at " + DOCUMENT.toAbsolutePath(), e);
        }
    }

    /** A list's item is a sentence too; the head of a method and the code of the face are none. */
    private static List<String> sentencesOf(String body) {
        List<String> sentences = new ArrayList<>();
        for (String block : body.replaceAll("(?s)```.*?```", "").split("\n\\s*\n|\n(?=- )")) {
            String line = block.trim().replaceAll("\\s+", " ").replaceFirst("^`[^`]*`: ", "");
            for (String sentence : line.split("(?<=\\.) (?=[A-Z])")) {
                if (!sentence.isEmpty()) {
                    sentences.add(sentence);
                }
            }
        }
        return sentences;
    }
}
