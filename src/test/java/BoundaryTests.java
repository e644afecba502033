import java.io.IOException;
import java.nio.file.Files;
import java.nio.file.Path;
import java.util.ArrayList;
import java.util.LinkedHashMap;
import java.util.List;
import java.util.Map;

/**
 * The document's sentences, each with a test of its own: at the last value that is allowed and at
 * the first that is not. Where the document can be read, the words of the tests are looked up in it,
 * and every sentence of its description and of its promises must have a test.
 */
public final class BoundaryTests {
    public static void main(String[] args) throws IOException {
        Sentences sentences = new Sentences();
        new SignalSentences(sentences).test();
        new PlanSentences(sentences).test();
        new TimeSentences(sentences).test();
        new DetectorSentences(sentences).test();
        new EventSentences(sentences).test();
        new StateSentences(sentences).test();
        Path document = Path.of(System.getProperty("document", "../shared/DOC.md"));
        if (Files.isReadable(document)) {
            compare(sentences, read(Files.readAllLines(document)));
        } else {
            System.out.println("no document at " + document + ": the words of the tests are not looked up");
        }
        sentences.finish();
    }

    /** The sentences of the description and of the promises, by their places. */
    private static Map<String, List<String>> read(List<String> lines) {
        Map<String, List<String>> found = new LinkedHashMap<>();
        String section = "";
        boolean examples = false;
        for (String line : lines) {
            section = line.startsWith("## ") ? line.substring(3).split(":")[0] : section;
            examples = examples && !line.startsWith("## ") || line.startsWith("Examples:");
            boolean promise = section.startsWith("Promise ");
            boolean told = promise || section.equals("Description") || section.equals("What it is");
            boolean words = !line.isBlank() && !line.startsWith("#") && !line.startsWith("----")
                    && !(promise && line.startsWith("`"));
            if (told && words && !examples) {
                add(found, section, line);
            }
        }
        return found;
    }

    private static void add(Map<String, List<String>> found, String section, String line) {
        String place = section;
        String rest = line.startsWith("- ") ? line.substring(2) : line;
        if (section.equals("Description")) {
            place = line.substring(0, line.indexOf(". "));
            rest = line.substring(place.length() + 2);
        }
        for (String sentence : rest.split("(?<=\\.) ")) {
            found.computeIfAbsent(place, key -> new ArrayList<>()).add(sentence);
        }
    }

    private static void compare(Sentences sentences, Map<String, List<String>> found) {
        Map<String, List<String>> tested = sentences.tested();
        for (Map.Entry<String, List<String>> entry : new LinkedHashMap<>(tested).entrySet()) {
            String all = String.join(" ", found.getOrDefault(entry.getKey(), List.of()));
            for (String words : entry.getValue()) {
                String looked = entry.getKey() + ", \"" + words + "\"";
                sentences.dueText(looked, all.contains(words) ? "stands there" : "is not there", "stands there");
            }
        }
        for (Map.Entry<String, List<String>> entry : found.entrySet()) {
            if (!entry.getKey().equals("What it is")) {
                compare(sentences, entry.getKey(), entry.getValue(), tested.getOrDefault(entry.getKey(), List.of()));
            }
        }
    }

    private static void compare(Sentences sentences, String place, List<String> found, List<String> tested) {
        for (String sentence : found) {
            boolean covered = tested.stream().anyMatch(words -> sentence.contains(words) || words.contains(sentence));
            sentences.dueText(place + ", \"" + sentence + "\"", covered ? "is tested" : "has no test", "is tested");
        }
    }
}
