import java.io.IOException;
import java.nio.file.Files;
import java.nio.file.Path;
import java.util.ArrayList;
import java.util.LinkedHashMap;
import java.util.List;
import java.util.Map;
import java.util.Set;

/** The sentences of ../shared/DOC.md, part by part; a promise is named "Promise 3", any other part by its heading. */
final class Document {
    private static final Path PLACE = Path.of("../shared/DOC.md");
    private static final String FENCE = "```";

    private final Map<String, List<String>> sentences = new LinkedHashMap<>();
    private final Map<String, String> texts = new LinkedHashMap<>();

    Document() {
        String[] parts = read().split("(?m)^## ");
        for (int i = 1; i < parts.length; i++) {
            int end = parts[i].indexOf('\n');
            add(parts[i].substring(0, end).replaceAll(":.*", ""), parts[i].substring(end));
        }
    }

    boolean has(String part, String words) {
        return textOf(part).contains(words);
    }

    String textOf(String part) {
        return texts.getOrDefault(part, "");
    }

    Set<String> parts() {
        return sentences.keySet();
    }

    List<String> sentencesOf(String part) {
        return sentences.get(part);
    }

    private static String read() {
        try {
            return Files.readString(PLACE);
        } catch (IOException notThere) {
            throw new IllegalStateException("the document is not at " + PLACE, notThere);
        }
    }

    private void add(String part, String body) {
        texts.put(part, body.replaceAll("\\s+", " "));
        List<String> found = new ArrayList<>();
        StringBuilder prose = new StringBuilder();
        boolean isForm = false;
        for (String line : body.split("\n")) {
            if (line.startsWith(FENCE)) {
                isForm = !isForm;
            } else if (isForm) {
                found.add(line.trim());
            } else {
                // In "Terms" a sentence can go on behind an empty line; a promise has a line for each exception.
                boolean isNew = part.startsWith("Promise ") && line.isEmpty() || line.startsWith("- ");
                prose.append(isNew ? "\n" : " ").append(line.replaceAll("^`[^`]*`: ", ""));
            }
        }
        for (String sentence : prose.toString().split("(?<=[.;]) +|\n")) {
            found.add(sentence.trim().replaceAll(" +", " "));
        }
        // A word alone is a heading; what the interface says ahead of its calls is no answer of a call.
        found.removeIf(sentence -> !sentence.contains(" ") || sentence.startsWith("Ahead of the calls "));
        sentences.put(part, found);
    }
}
