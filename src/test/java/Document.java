import java.io.IOException;
import java.nio.file.Files;
import java.nio.file.Path;
import java.util.ArrayList;
import java.util.HashSet;
import java.util.LinkedHashMap;
import java.util.List;
import java.util.Map;
import java.util.Set;

/** The sentences of ../shared/DOC.md by their headings, and which of them a test has quoted. */
final class Document {
    private static final List<String> UNTESTED_HEADINGS = List.of("The public face", "Not promised");
    private static final List<String> NAMES_NO_EDGE = List.of("Figures of cells found again", "Its calls: ",
        "One asks which figures", "The constructor and the methods follow");

    private final Map<String, List<String>> sentences = new LinkedHashMap<>();
    private final Set<String> quoted = new HashSet<>();

    Document() throws IOException {
        List<String> here = new ArrayList<>();
        for (String line : Files.readAllLines(Path.of("../shared/DOC.md"))) {
            if (line.startsWith("## ") || line.startsWith("== ")) {
                here = new ArrayList<>();
                sentences.put(headingOf(line), here);
            } else {
                addSentences(here, line.trim());
            }
        }
        sentences.keySet().removeAll(UNTESTED_HEADINGS);
    }

    private static String headingOf(String line) {
        String heading = line.substring(3).trim();
        return heading.startsWith("Promise ") ? heading.substring(0, heading.indexOf(':')) : heading;
    }

    private static void addSentences(List<String> here, String line) {
        // a line that begins so is a signature, which FaceTest compares
        if (line.isEmpty() || line.startsWith("#") || line.startsWith("`")) {
            return;
        }
        // the names of the groups are no sentences, but one says more than a name
        if (line.startsWith("----") && !line.endsWith(")")) {
            return;
        }
        for (String sentence : line.split("(?<=\\.) +(?=[A-Z])")) {
            if (NAMES_NO_EDGE.stream().noneMatch(sentence::startsWith)) {
                here.add(sentence);
            }
        }
    }

    /** Marks the one sentence under the heading in which the clause stands. */
    void quote(String heading, String clause) {
        int found = 0;
        for (String sentence : sentences.getOrDefault(heading, List.of())) {
            if (sentence.contains(clause)) {
                quoted.add(heading + ": " + sentence);
                found++;
            }
        }
        Check.same("sentences under " + heading + " with: " + clause, found, 1);
    }

    void checkAllQuoted() {
        Check.same("headings", sentences.size(), 34);
        for (Map.Entry<String, List<String>> one : sentences.entrySet()) {
            for (String sentence : one.getValue()) {
                String named = one.getKey() + ": " + sentence;
                Check.same("a test quotes " + named, quoted.contains(named), true);
            }
        }
    }
}
