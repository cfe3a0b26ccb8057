import java.io.IOException;
import java.nio.file.Files;
import java.nio.file.Path;
import java.util.ArrayList;
import java.util.LinkedHashMap;
import java.util.List;
import java.util.Map;

/** The sentences of ../shared/DOC.md; 0 stands for the part "Terms", another number for the promise. */
final class Document {
    private static final Path PLACE = Path.of("../shared/DOC.md");
    private static final String FENCE = "```";

    private final Map<Integer, List<String>> sentences = new LinkedHashMap<>();
    private final Map<Integer, String> texts = new LinkedHashMap<>();

    Document() {
        for (String part : read().split("(?m)^## ")) {
            if (part.startsWith("Terms\n")) {
                add(0, part);
            } else if (part.startsWith("Promise ")) {
                add(Integer.parseInt(part.replaceAll("(?s)^Promise (\\d+):.*", "$1")), part);
            }
        }
    }

    boolean has(int promise, String words) {
        return texts.getOrDefault(promise, "").contains(words);
    }

    Iterable<Integer> promises() {
        return sentences.keySet();
    }

    List<String> sentencesOf(int promise) {
        return sentences.get(promise);
    }

    private static String read() {
        try {
            return Files.readString(PLACE);
        } catch (IOException notThere) {
            throw new IllegalStateException("the document is not at " + PLACE, notThere);
        }
    }

    private void add(int promise, String part) {
        String body = part.substring(part.indexOf('\n'));
        texts.put(promise, body.replaceAll("\\s+", " "));
        List<String> found = new ArrayList<>();
        StringBuilder prose = new StringBuilder();
        boolean isForm = false;
        for (String line : body.split("\n")) {
            if (line.startsWith(FENCE)) {
                isForm = !isForm;
            } else if (isForm) {
                found.add(line.trim());
            } else {
                // In "Terms" a sentence can go on behind an empty line; a promise has a line for each exception.
                boolean isNew = promise > 0 && line.isEmpty() || line.startsWith("- ");
                prose.append(isNew ? "\n" : " ").append(line.replaceAll("^`[^`]*`: ", ""));
            }
        }
        for (String sentence : prose.toString().split("(?<=[.;]) +|\n")) {
            found.add(sentence.trim().replaceAll(" +", " "));
        }
        // A word alone is a heading; what the interface says ahead of its calls is no answer of a call.
        found.removeIf(sentence -> !sentence.contains(" ") || sentence.startsWith("Ahead of the calls "));
        sentences.put(promise, found);
    }
}
