import java.nio.charset.StandardCharsets;
import java.nio.file.Files;
import java.nio.file.Path;
import java.util.ArrayList;
import java.util.LinkedHashMap;
import java.util.List;
import java.util.Map;

/** The document, cut into sections and sentences, so that no sentence goes without a test. */
final class Document {
    private static final List<String> PLAIN_HEADS = List.of("Guests, coats", "Gates, laws", "Undo, the snapshot");
    private static final List<String> WITHOUT_TESTS = List.of("", "LaceRanks", "The public face", "Not promised");
    /** They only tell what a thing is for; the sentences beside them tell what is due. */
    private static final List<String> NAMES_NO_EDGE = List.of(
        "guests with ranks, purses of ribbons and coats of lace, coats that are lent", "Sumptuary laws of a carnival",
        "what later calls answer is free", "how many ells of lace a rank may wear in a night",
        "Ahead of the calls", "----",
        "nothing is changed.", "Changes a setting.", "Tells of the latest stop of revel().", "Returns something of a "
            + "guest.",
        "Returns the number.", "Returns a number.", "Tells how many ells the law of a gate allows for a rank.",
        "Returns the length of the line of a gate.", "Tells why a coat cannot be lent.",
        "Tells why a guest cannot stand in a line, or take a mask.", "Finds the best gate for a guest.",
        "Tells in how many nights a guest would go through a gate without a fine.",
        "Returns how much lace is within its rank.", "Returns the hash.");

    private final Map<String, List<String>> sections = new LinkedHashMap<>();

    Document(Path file) throws Exception {
        String name = "";
        for (String line : Files.readString(file, StandardCharsets.UTF_8).split("\n")) {
            if (line.startsWith("#") || PLAIN_HEADS.contains(line)) {
                name = line.replaceAll("^#+ ", "").replaceAll("^Promise (\\d+): .*", "$1");
            } else {
                cut(sections.computeIfAbsent(name, key -> new ArrayList<>()), line.trim());
            }
        }
    }

    private static void cut(List<String> sentences, String line) {
        if (line.startsWith("- ")) {
            sentences.add(line.substring(2));
            return;
        }
        String bare = line.replaceAll("^`(int|long|double|LaceRanks)[^`]*`: ", "");
        for (String sentence : bare.split("(?<=[.;:])\\s+")) {
            if (!sentence.isEmpty()) {
                sentences.add(sentence);
            }
        }
    }

    /** Every quote stands in its section, and every sentence that names an edge is quoted. */
    void check(Check check, List<String[]> quotes) {
        for (String[] quote : quotes) {
            String all = String.join(" ", sections.getOrDefault(quote[0], List.of()));
            check.due("in " + quote[0] + " stands \"" + quote[1] + "\"", all.contains(quote[1]), true);
        }
        for (Map.Entry<String, List<String>> section : sections.entrySet()) {
            if (!WITHOUT_TESTS.contains(section.getKey())) {
                for (String sentence : section.getValue()) {
                    boolean isTested = isQuoted(section.getKey(), sentence, quotes) || namesNoEdge(sentence);
                    check.due("a test for \"" + sentence + "\" in " + section.getKey(), isTested, true);
                }
            }
        }
    }

    private static boolean isQuoted(String section, String sentence, List<String[]> quotes) {
        String words = sentence.replaceAll("[.;:,]$", "");
        for (String[] quote : quotes) {
            String quoted = quote[1].replaceAll("[.;:,]$", "");
            if (quote[0].equals(section) && (quoted.contains(words) || words.contains(quoted))) {
                return true;
            }
        }
        return false;
    }

    private static boolean namesNoEdge(String sentence) {
        for (String words : NAMES_NO_EDGE) {
            if (sentence.startsWith(words)) {
                return true;
            }
        }
        return false;
    }
}
