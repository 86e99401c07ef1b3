import java.io.IOException;
import java.nio.file.Files;
import java.nio.file.Path;
import java.util.ArrayList;
import java.util.LinkedHashMap;
import java.util.List;
import java.util.Map;

/** The text of the document by its sections; a promise's section is called "Promise 4", without its name. */
final class Document {
    private final Map<String, StringBuilder> sections = new LinkedHashMap<>();

    static Document read(Path file) throws IOException {
        Document document = new Document();
        StringBuilder section = new StringBuilder();
        for (String line : Files.readAllLines(file)) {
            if (line.startsWith("#")) {
                section = new StringBuilder();
                document.sections.put(line.replaceFirst("#+ ", "").replaceFirst(":.*", ""), section);
            } else {
                section.append(line).append('\n');
            }
        }
        return document;
    }

    boolean holds(String section, String words) {
        return sections.containsKey(section) && sections.get(section).indexOf(words) >= 0;
    }

    /** The sections that say what the program does. */
    List<String> sectionsToTest() {
        return sections.keySet().stream()
                .filter(s -> s.startsWith("Promise ") || List.of("Before a night", "Moves", "The way").contains(s))
                .toList();
    }

    /** The sentences of a section, of its lists an entry each; left out is what only sorts the calls. */
    List<String> sentencesOf(String section) {
        List<String> sentences = new ArrayList<>();
        for (String line : sections.get(section).toString().split("\n")) {
            if (!line.isBlank() && !line.startsWith("Ahead of the calls ")) {
                sentences.addAll(List.of(line.split("(?<=[.)])\\s+(?=[A-Z(-])")));
            }
        }
        return sentences;
    }
}
