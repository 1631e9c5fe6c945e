import java.io.IOException;
import java.nio.file.Files;
import java.nio.file.Path;
import java.util.ArrayList;
import java.util.HashMap;
import java.util.LinkedHashMap;
import java.util.List;
import java.util.Map;

/**
 * The sentences of ../shared/DOC.md by the place where they stand (a heading of "Description" as PROCESSES,
 * CONSTANTS, or "Promise 7"), and how much of them has been quoted.
 */
final class Document {
    private final Map<String, String> texts = new LinkedHashMap<>();
    private final Map<String, boolean[]> quoted = new HashMap<>();

    Document() throws IOException {
        String place = "";
        for (String line : Files.readAllLines(Path.of("../shared/DOC.md"))) {
            String next = placeBegunBy(line);
            if (next != null) {
                place = next;
            } else if (!place.isEmpty() && !isSignature(line) && !line.startsWith("----")) {
                texts.merge(place, plain(line), (before, more) -> (before + " " + more).strip());
            }
        }
        for (Map.Entry<String, String> text : texts.entrySet()) {
            quoted.put(text.getKey(), new boolean[text.getValue().length()]);
        }
    }

    /** The place that begins at a line, an empty one where nothing can be tested; null within a place. */
    private static String placeBegunBy(String line) {
        if (line.startsWith("## Promise ")) {
            return line.substring(3, line.indexOf(':'));
        }
        if (line.startsWith("## ") || line.startsWith("The constructor and the methods follow")) {
            return "";
        }
        if (line.equals("The constants:")) {
            return "CONSTANTS";
        }
        return line.matches("[A-Z][A-Z ]+") ? line : null;
    }

    /** FaceTest looks at the signatures. */
    private static boolean isSignature(String line) {
        return line.startsWith("`");
    }

    private static String plain(String line) {
        String text = line.strip().replace("`", "").replaceAll(" +", " ");
        return text.startsWith("- ") ? text.substring(2) : text;
    }

    /** Marks a sentence as quoted, and tells whether it stands at that place word by word. */
    boolean quote(String place, String sentence) {
        String text = texts.getOrDefault(place, "");
        int from = text.indexOf(sentence);
        boolean isThere = from >= 0;
        while (from >= 0) {
            java.util.Arrays.fill(quoted.get(place), from, from + sentence.length(), true);
            from = text.indexOf(sentence, from + 1);
        }
        return isThere;
    }

    /** What nobody has quoted, each piece with its place. */
    List<String> unquoted() {
        List<String> pieces = new ArrayList<>();
        for (Map.Entry<String, String> text : texts.entrySet()) {
            StringBuilder rest = new StringBuilder();
            boolean[] marks = quoted.get(text.getKey());
            for (int i = 0; i < marks.length; i++) {
                rest.append(marks[i] ? '\n' : text.getValue().charAt(i));
            }
            for (String piece : rest.toString().split("\n+")) {
                if (piece.matches(".*[A-Za-z0-9].*")) {
                    pieces.add(text.getKey() + ": " + piece.strip());
                }
            }
        }
        return pieces;
    }
}
