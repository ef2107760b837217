import java.io.IOException;
import java.nio.file.Files;
import java.nio.file.Path;
import java.util.ArrayList;
import java.util.LinkedHashMap;
import java.util.LinkedHashSet;
import java.util.List;
import java.util.Map;
import java.util.Set;

/**
 * The document's sentences by their section ("What it is", "Terms", "Promise 1", ..), and which of them tests name;
 * and the lines of its public face.
 */
final class Document {
    private static final String FACE = "The public face";

    private final Map<String, List<String>> sentences = new LinkedHashMap<>();
    private final Set<String> named = new LinkedHashSet<>();
    private final List<String> face = new ArrayList<>();

    Document(Path file) throws IOException {
        String section = "";
        for (String line : Files.readAllLines(file)) {
            if (line.startsWith("## ")) {
                section = line.substring(3).replaceFirst("^(Promise \\d+): .*", "$1");
                sentences.put(section, new ArrayList<>());
            } else if (section.equals(FACE)) {
                face.add(line.strip());
            } else if (section.startsWith("Promise") && !line.isEmpty()) {
                sentences.get(section).add(line);
            } else if (line.endsWith(".")) {
                sentences.get(section).addAll(List.of(line.split("(?<=\\.) ")));
            }
        }
    }

    /** All that the face declares: the class, its constants, its constructor and its methods. */
    List<String> declared() {
        List<String> lines = new ArrayList<>();
        for (String line : face) {
            if (line.startsWith("public ")) {
                lines.add(line);
            }
        }
        return lines;
    }

    /** Whether these words stand in exactly one sentence of the section, which is then a named one. */
    boolean names(String section, String words) {
        int found = 0;
        for (String sentence : sentences.getOrDefault(section, List.of())) {
            if (sentence.contains(words)) {
                named.add(section + ": " + sentence);
                found++;
            }
        }
        return found == 1;
    }

    List<String> notNamed() {
        List<String> left = new ArrayList<>();
        for (Map.Entry<String, List<String>> section : sentences.entrySet()) {
            for (String sentence : section.getValue()) {
                String one = section.getKey() + ": " + sentence;
                if (!named.contains(one)) {
                    left.add(one);
                }
            }
        }
        return left;
    }
}
