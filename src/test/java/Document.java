import java.nio.file.Files;
import java.nio.file.Path;
import java.util.ArrayList;
import java.util.LinkedHashMap;
import java.util.List;
import java.util.Map;

/** The document's parts by their headings, and which words of them a test has named. */
final class Document {
    private static final String HEADING = "## ";
    private static final String FENCE = "```";

    private final Map<String, String> texts = new LinkedHashMap<>();
    private final Map<String, boolean[]> named = new LinkedHashMap<>();

    /** All parts but "The public face", which FaceTest holds, as it does the lines of what the interface says. */
    Document(Path file) throws Exception {
        String part = "";
        StringBuilder text = new StringBuilder();
        for (String line : Files.readAllLines(file)) {
            if (line.startsWith(HEADING)) {
                keep(part, text.toString());
                part = line.substring(HEADING.length()).replaceAll(":.*", "");
                text.setLength(0);
            } else if (!line.startsWith(FENCE) && !line.startsWith("Ahead of the calls")) {
                text.append(' ').append(line);
            }
        }
        keep(part, text.toString());
    }

    private void keep(String part, String text) {
        if (part.isEmpty() || part.equals("The public face")) {
            return;
        }
        // A promise begins with its call, in marks; the sections of the terms with a number that is no sentence.
        String plain = tidy(text.replaceFirst("^\\s*`[^`]*`:", "").replaceAll("(^|\\. |\\) )\\s*([123])\\. (?=[A-Z])", "$1"));
        texts.put(part, plain);
        named.put(part, new boolean[plain.length()]);
    }

    private static String tidy(String text) {
        return text.replaceAll("\\s+", " ").trim();
    }

    /** Whether these words stand in the part, where no test has named them yet. */
    boolean name(String part, String words) {
        String text = texts.get(part);
        String sought = tidy(words);
        if (text == null || sought.isEmpty()) {
            return false;
        }
        boolean[] marks = named.get(part);
        for (int from = text.indexOf(sought); from >= 0; from = text.indexOf(sought, from + 1)) {
            if (!marks[from]) {
                for (int i = from; i < from + sought.length(); i++) {
                    marks[i] = true;
                }
                return true;
            }
        }
        return false;
    }

    int parts() {
        return texts.size();
    }

    /** The words that no test has named, each with its part. */
    List<String> unnamed() {
        List<String> left = new ArrayList<>();
        for (Map.Entry<String, String> part : texts.entrySet()) {
            StringBuilder run = new StringBuilder();
            boolean[] marks = named.get(part.getKey());
            for (int i = 0; i <= marks.length; i++) {
                if (i < marks.length && !marks[i]) {
                    run.append(part.getValue().charAt(i));
                } else {
                    if (run.chars().anyMatch(Character::isLetterOrDigit)) {
                        left.add(part.getKey() + ": " + run.toString().trim());
                    }
                    run.setLength(0);
                }
            }
        }
        return left;
    }
}
